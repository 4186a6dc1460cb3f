set_option maxRecDepth 100000 in
theorem in_X1_init : ∀ w ∈ wsX10, w ∈ wsX1_init := by decide +kernel
set_option maxHeartbeats 4000000 in
set_option maxRecDepth 100000 in
theorem c_X1_init (l : Launch) (D : va_G) (cI : ClassId) (h0 sz : Nat) : Met l yX1_init wsX1_init ({ frames := 1, cells := 9, slots := 680, locals := 12 }) (va_Pc [.ref h0] (fun U => PW D [(cI, .int)] [(h0, .inr (1, [.int 0, .null, .int 0, .int 0, .null, .null, .null, .null, .int 0, .null, .null, .null, .null]))] sz U ∧ True)) (va_Qv (fun _ : Nat → Nat => True) (fun u => BW D [(cI, .int)] (va_A [(h0, .inr (1, [.int 0, .null, .int 0, .int 0, .null, .null, .null, .null, .int 0, .null, .null, .null, .null]))] sz) [(h0, .inr (1, [.int 0, .ref (u 0), .int 0, .int 0, .ref (u 1), .ref (u 2), .ref (u 3), .ref (u 4), .int (nI 0), .ref (u 5), .ref (u 6), .ref (u 7), .ref (u 8)])), (u 0, .inl (cI, 8, .inl (fun _ => 0))), (u 1, .inl (cI, 140, .inl (fun _ => 0))), (u 2, .inl (cI, 132, .inl (fun _ => 0))), (u 3, .inl (cI, 4, .inl (fun _ => 0))), (u 4, .inl (cI, 256, .inl (fun _ => 0))), (u 5, .inl (cI, 128, .inl TB)), (u 6, .inl (cI, 4, .inl (fun _ => 0))), (u 7, .inl (cI, 4, .inl (fun _ => 0))), (u 8, .inl (cI, 4, .inl (fun _ => 0)))]) (va_A [(h0, .inr (1, [.int 0, .null, .int 0, .int 0, .null, .null, .null, .null, .int 0, .null, .null, .null, .null]))] sz)) 9 680 (va_A [(h0, .inr (1, [.int 0, .null, .int 0, .int 0, .null, .null, .null, .null, .int 0, .null, .null, .null, .null]))] sz) := by
  refine Met.ofW (cc := cX1_init) (maxL := 1) (ret := none) (by decide) rfl ?_
  intro p e s m args below meth c s₁ B hml hv
  obtain ⟨rfl, ⟨hsz, hP, hK, hD0⟩, -⟩ := hv
  have hx := B.exec
  have hb := B.bytes
  have hr := B.returns
  have hts := atoms_spec (ws := wsX1_init) B.pre
  have hown : s.vm.findClass RX1 = some m.cls := findClass_of_methodNamed B.named
  have hlocks := B.notSynchronized
  subst hsz
  have hD := hD0.self (sz := s.heap.size)
  have hinX1 := in_X1_init
  have hin9 : meth.name = "<init>" := (name_of_methodNamed B.named B.method).1
  generalize hAe : va_A [(h0, .inr (1, [.int 0, .null, .int 0, .int 0, .null, .null, .null, .null, .int 0, .null, .null, .null, .null]))] s.heap.size = A at hD ⊢
  have hA : ∀ q : Nat, s.heap.size ≤ q → A q := fun q h => by rw [← hAe]; exact Or.inr h
  have hS : va_S A s.heap s.heap [] := va_S.rf
  have hl := lv_entry ([.ref h0]) (n := 1) (Nat.le_of_ble_eq_true rfl)
  rw [lg_entry_eq]
  generalize (lg_sl ([.ref h0]) ++ List.replicate (1 - (lg_sl ([.ref h0])).length) Slot.unset).toArray = ls at hl ⊢
  have hl : lv_has ls 1 [(0, .ref h0)] := hl
  refine lv_aload_n hx hb dX1_init_0 rfl (lv_at hl 0 rfl) ?_
  refine W.objInit hx hb hown (hts (.methodLink RX1 1 objectInit) (by decide +kernel)) (hts (.instanceMethod objectInit) (by decide +kernel)) (hts (.code objectInit ⟨#[0xb1]⟩ 1 none) (by decide +kernel)) rfl (by rw [hml]; exact hl.1) rfl dX1_init_1 (Nat.le_of_ble_eq_true rfl) (Nat.le_of_ble_eq_true rfl) ?_
  refine W.eq (g2 := F0 m 4 ls []) rfl ?_
  refine lv_aload_n hx hb dX1_init_4 rfl (lv_at hl 0 rfl) ?_
  refine lv_bipush (v := nI 8) hx hb dX1_init_5 (by decide) ?_
  refine wk_newi (N' := 8) hx hb (hts (.arrayClass .int) (by decide +kernel)) hK 0 rfl hP hD hS hA (by decide) (Nat.le_of_ble_eq_true rfl) (Nat.le_of_ble_eq_true rfl) dX1_init_7 (fun q0 H hP hD hS => ?_)
  have hP : va_P D vwCl [(h0, .inr (1, [.int 0, .null, .int 0, .int 0, .null, .null, .null, .null, .int 0, .null, .null, .null, .null])), (q0, .inl (cI, 8, .inl (fun _ => 0)))] H := hP
  have hD : va_D A [(h0, .inr (1, [.int 0, .null, .int 0, .int 0, .null, .null, .null, .null, .int 0, .null, .null, .null, .null])), (q0, .inl (cI, 8, .inl (fun _ => 0)))] := hD
  refine va_putF (D := D) (ci := 1) (v := .ref q0) (ty := .array .int) (C := RX1) (T := TX1) (N := 13) hx hb hts hinX1 tyX1 tyX1_ok nmX1 hown hK hP hD hS 0 rfl rfl 1 (by decide) (hts (.fieldLink RX1 7 "SlicedCipherModel" "told" "[I") (by decide +kernel)) (fun _ h9 => h9) rfl hin9 rfl (by decide +kernel) rfl rfl (Nat.le_of_ble_eq_true rfl) dX1_init_9 (fun H locs hP hD hS => ?_)
  have hP : va_P D vwCl [(h0, .inr (1, [.int 0, .ref q0, .int 0, .int 0, .null, .null, .null, .null, .int 0, .null, .null, .null, .null])), (q0, .inl (cI, 8, .inl (fun _ => 0)))] H := hP
  have hD : va_D A [(h0, .inr (1, [.int 0, .ref q0, .int 0, .int 0, .null, .null, .null, .null, .int 0, .null, .null, .null, .null])), (q0, .inl (cI, 8, .inl (fun _ => 0)))] := hD
  refine lv_aload_n hx hb dX1_init_12 rfl (lv_at hl 0 rfl) ?_
  refine lv_sipush (v := nI 140) hx hb dX1_init_13 (by decide) ?_
  refine wk_newi (N' := 140) hx hb (hts (.arrayClass .int) (by decide +kernel)) hK 0 rfl hP hD hS hA (by decide) (Nat.le_of_ble_eq_true rfl) (Nat.le_of_ble_eq_true rfl) dX1_init_16 (fun q1 H hP hD hS => ?_)
  have hP : va_P D vwCl [(h0, .inr (1, [.int 0, .ref q0, .int 0, .int 0, .null, .null, .null, .null, .int 0, .null, .null, .null, .null])), (q0, .inl (cI, 8, .inl (fun _ => 0))), (q1, .inl (cI, 140, .inl (fun _ => 0)))] H := hP
  have hD : va_D A [(h0, .inr (1, [.int 0, .ref q0, .int 0, .int 0, .null, .null, .null, .null, .int 0, .null, .null, .null, .null])), (q0, .inl (cI, 8, .inl (fun _ => 0))), (q1, .inl (cI, 140, .inl (fun _ => 0)))] := hD
  refine va_putF (D := D) (ci := 1) (v := .ref q1) (ty := .array .int) (C := RX1) (T := TX1) (N := 13) hx hb hts hinX1 tyX1 tyX1_ok nmX1 hown hK hP hD hS 0 rfl rfl 4 (by decide) (hts (.fieldLink RX1 13 "SlicedCipherModel" "words" "[I") (by decide +kernel)) (fun _ h9 => h9) rfl hin9 rfl (by decide +kernel) rfl rfl (Nat.le_of_ble_eq_true rfl) dX1_init_18 (fun H locs hP hD hS => ?_)
  have hP : va_P D vwCl [(h0, .inr (1, [.int 0, .ref q0, .int 0, .int 0, .ref q1, .null, .null, .null, .int 0, .null, .null, .null, .null])), (q0, .inl (cI, 8, .inl (fun _ => 0))), (q1, .inl (cI, 140, .inl (fun _ => 0)))] H := hP
  have hD : va_D A [(h0, .inr (1, [.int 0, .ref q0, .int 0, .int 0, .ref q1, .null, .null, .null, .int 0, .null, .null, .null, .null])), (q0, .inl (cI, 8, .inl (fun _ => 0))), (q1, .inl (cI, 140, .inl (fun _ => 0)))] := hD
  refine lv_aload_n hx hb dX1_init_21 rfl (lv_at hl 0 rfl) ?_
  refine lv_sipush (v := nI 132) hx hb dX1_init_22 (by decide) ?_
  refine wk_newi (N' := 132) hx hb (hts (.arrayClass .int) (by decide +kernel)) hK 0 rfl hP hD hS hA (by decide) (Nat.le_of_ble_eq_true rfl) (Nat.le_of_ble_eq_true rfl) dX1_init_25 (fun q2 H hP hD hS => ?_)
  have hP : va_P D vwCl [(h0, .inr (1, [.int 0, .ref q0, .int 0, .int 0, .ref q1, .null, .null, .null, .int 0, .null, .null, .null, .null])), (q0, .inl (cI, 8, .inl (fun _ => 0))), (q1, .inl (cI, 140, .inl (fun _ => 0))), (q2, .inl (cI, 132, .inl (fun _ => 0)))] H := hP
  have hD : va_D A [(h0, .inr (1, [.int 0, .ref q0, .int 0, .int 0, .ref q1, .null, .null, .null, .int 0, .null, .null, .null, .null])), (q0, .inl (cI, 8, .inl (fun _ => 0))), (q1, .inl (cI, 140, .inl (fun _ => 0))), (q2, .inl (cI, 132, .inl (fun _ => 0)))] := hD
  refine va_putF (D := D) (ci := 1) (v := .ref q2) (ty := .array .int) (C := RX1) (T := TX1) (N := 13) hx hb hts hinX1 tyX1 tyX1_ok nmX1 hown hK hP hD hS 0 rfl rfl 5 (by decide) (hts (.fieldLink RX1 16 "SlicedCipherModel" "rounds" "[I") (by decide +kernel)) (fun _ h9 => h9) rfl hin9 rfl (by decide +kernel) rfl rfl (Nat.le_of_ble_eq_true rfl) dX1_init_27 (fun H locs hP hD hS => ?_)
  have hP : va_P D vwCl [(h0, .inr (1, [.int 0, .ref q0, .int 0, .int 0, .ref q1, .ref q2, .null, .null, .int 0, .null, .null, .null, .null])), (q0, .inl (cI, 8, .inl (fun _ => 0))), (q1, .inl (cI, 140, .inl (fun _ => 0))), (q2, .inl (cI, 132, .inl (fun _ => 0)))] H := hP
  have hD : va_D A [(h0, .inr (1, [.int 0, .ref q0, .int 0, .int 0, .ref q1, .ref q2, .null, .null, .int 0, .null, .null, .null, .null])), (q0, .inl (cI, 8, .inl (fun _ => 0))), (q1, .inl (cI, 140, .inl (fun _ => 0))), (q2, .inl (cI, 132, .inl (fun _ => 0)))] := hD
  refine lv_aload_n hx hb dX1_init_30 rfl (lv_at hl 0 rfl) ?_
  refine lv_iconst (v := nI 4) hx hb dX1_init_31 (by decide) ?_
  refine wk_newi (N' := 4) hx hb (hts (.arrayClass .int) (by decide +kernel)) hK 0 rfl hP hD hS hA (by decide) (Nat.le_of_ble_eq_true rfl) (Nat.le_of_ble_eq_true rfl) dX1_init_32 (fun q3 H hP hD hS => ?_)
  have hP : va_P D vwCl [(h0, .inr (1, [.int 0, .ref q0, .int 0, .int 0, .ref q1, .ref q2, .null, .null, .int 0, .null, .null, .null, .null])), (q0, .inl (cI, 8, .inl (fun _ => 0))), (q1, .inl (cI, 140, .inl (fun _ => 0))), (q2, .inl (cI, 132, .inl (fun _ => 0))), (q3, .inl (cI, 4, .inl (fun _ => 0)))] H := hP
  have hD : va_D A [(h0, .inr (1, [.int 0, .ref q0, .int 0, .int 0, .ref q1, .ref q2, .null, .null, .int 0, .null, .null, .null, .null])), (q0, .inl (cI, 8, .inl (fun _ => 0))), (q1, .inl (cI, 140, .inl (fun _ => 0))), (q2, .inl (cI, 132, .inl (fun _ => 0))), (q3, .inl (cI, 4, .inl (fun _ => 0)))] := hD
  refine va_putF (D := D) (ci := 1) (v := .ref q3) (ty := .array .int) (C := RX1) (T := TX1) (N := 13) hx hb hts hinX1 tyX1 tyX1_ok nmX1 hown hK hP hD hS 0 rfl rfl 6 (by decide) (hts (.fieldLink RX1 19 "SlicedCipherModel" "begin" "[I") (by decide +kernel)) (fun _ h9 => h9) rfl hin9 rfl (by decide +kernel) rfl rfl (Nat.le_of_ble_eq_true rfl) dX1_init_34 (fun H locs hP hD hS => ?_)
  have hP : va_P D vwCl [(h0, .inr (1, [.int 0, .ref q0, .int 0, .int 0, .ref q1, .ref q2, .ref q3, .null, .int 0, .null, .null, .null, .null])), (q0, .inl (cI, 8, .inl (fun _ => 0))), (q1, .inl (cI, 140, .inl (fun _ => 0))), (q2, .inl (cI, 132, .inl (fun _ => 0))), (q3, .inl (cI, 4, .inl (fun _ => 0)))] H := hP
  have hD : va_D A [(h0, .inr (1, [.int 0, .ref q0, .int 0, .int 0, .ref q1, .ref q2, .ref q3, .null, .int 0, .null, .null, .null, .null])), (q0, .inl (cI, 8, .inl (fun _ => 0))), (q1, .inl (cI, 140, .inl (fun _ => 0))), (q2, .inl (cI, 132, .inl (fun _ => 0))), (q3, .inl (cI, 4, .inl (fun _ => 0)))] := hD
  refine lv_aload_n hx hb dX1_init_37 rfl (lv_at hl 0 rfl) ?_
  refine lv_sipush (v := nI 256) hx hb dX1_init_38 (by decide) ?_
  refine wk_newi (N' := 256) hx hb (hts (.arrayClass .int) (by decide +kernel)) hK 0 rfl hP hD hS hA (by decide) (Nat.le_of_ble_eq_true rfl) (Nat.le_of_ble_eq_true rfl) dX1_init_41 (fun q4 H hP hD hS => ?_)
  have hP : va_P D vwCl [(h0, .inr (1, [.int 0, .ref q0, .int 0, .int 0, .ref q1, .ref q2, .ref q3, .null, .int 0, .null, .null, .null, .null])), (q0, .inl (cI, 8, .inl (fun _ => 0))), (q1, .inl (cI, 140, .inl (fun _ => 0))), (q2, .inl (cI, 132, .inl (fun _ => 0))), (q3, .inl (cI, 4, .inl (fun _ => 0))), (q4, .inl (cI, 256, .inl (fun _ => 0)))] H := hP
  have hD : va_D A [(h0, .inr (1, [.int 0, .ref q0, .int 0, .int 0, .ref q1, .ref q2, .ref q3, .null, .int 0, .null, .null, .null, .null])), (q0, .inl (cI, 8, .inl (fun _ => 0))), (q1, .inl (cI, 140, .inl (fun _ => 0))), (q2, .inl (cI, 132, .inl (fun _ => 0))), (q3, .inl (cI, 4, .inl (fun _ => 0))), (q4, .inl (cI, 256, .inl (fun _ => 0)))] := hD
  refine va_putF (D := D) (ci := 1) (v := .ref q4) (ty := .array .int) (C := RX1) (T := TX1) (N := 13) hx hb hts hinX1 tyX1 tyX1_ok nmX1 hown hK hP hD hS 0 rfl rfl 7 (by decide) (hts (.fieldLink RX1 22 "SlicedCipherModel" "tape" "[I") (by decide +kernel)) (fun _ h9 => h9) rfl hin9 rfl (by decide +kernel) rfl rfl (Nat.le_of_ble_eq_true rfl) dX1_init_43 (fun H locs hP hD hS => ?_)
  have hP : va_P D vwCl [(h0, .inr (1, [.int 0, .ref q0, .int 0, .int 0, .ref q1, .ref q2, .ref q3, .ref q4, .int 0, .null, .null, .null, .null])), (q0, .inl (cI, 8, .inl (fun _ => 0))), (q1, .inl (cI, 140, .inl (fun _ => 0))), (q2, .inl (cI, 132, .inl (fun _ => 0))), (q3, .inl (cI, 4, .inl (fun _ => 0))), (q4, .inl (cI, 256, .inl (fun _ => 0)))] H := hP
  have hD : va_D A [(h0, .inr (1, [.int 0, .ref q0, .int 0, .int 0, .ref q1, .ref q2, .ref q3, .ref q4, .int 0, .null, .null, .null, .null])), (q0, .inl (cI, 8, .inl (fun _ => 0))), (q1, .inl (cI, 140, .inl (fun _ => 0))), (q2, .inl (cI, 132, .inl (fun _ => 0))), (q3, .inl (cI, 4, .inl (fun _ => 0))), (q4, .inl (cI, 256, .inl (fun _ => 0)))] := hD
  refine lv_aload_n hx hb dX1_init_46 rfl (lv_at hl 0 rfl) ?_
  refine lv_sipush (v := nI 128) hx hb dX1_init_47 (by decide) ?_
  refine wk_newi (N' := 128) hx hb (hts (.arrayClass .int) (by decide +kernel)) hK 0 rfl hP hD hS hA (by decide) (Nat.le_of_ble_eq_true rfl) (Nat.le_of_ble_eq_true rfl) dX1_init_50 (fun q5 H hP hD hS => ?_)
  have hP : va_P D vwCl [(h0, .inr (1, [.int 0, .ref q0, .int 0, .int 0, .ref q1, .ref q2, .ref q3, .ref q4, .int 0, .null, .null, .null, .null])), (q0, .inl (cI, 8, .inl (fun _ => 0))), (q1, .inl (cI, 140, .inl (fun _ => 0))), (q2, .inl (cI, 132, .inl (fun _ => 0))), (q3, .inl (cI, 4, .inl (fun _ => 0))), (q4, .inl (cI, 256, .inl (fun _ => 0))), (q5, .inl (cI, 128, .inl (fun _ => 0)))] H := hP
  have hD : va_D A [(h0, .inr (1, [.int 0, .ref q0, .int 0, .int 0, .ref q1, .ref q2, .ref q3, .ref q4, .int 0, .null, .null, .null, .null])), (q0, .inl (cI, 8, .inl (fun _ => 0))), (q1, .inl (cI, 140, .inl (fun _ => 0))), (q2, .inl (cI, 132, .inl (fun _ => 0))), (q3, .inl (cI, 4, .inl (fun _ => 0))), (q4, .inl (cI, 256, .inl (fun _ => 0))), (q5, .inl (cI, 128, .inl (fun _ => 0)))] := hD
  have hP : va_P D vwCl [(h0, .inr (1, [.int 0, .ref q0, .int 0, .int 0, .ref q1, .ref q2, .ref q3, .ref q4, .int 0, .null, .null, .null, .null])), (q0, .inl (cI, 8, .inl (fun _ => 0))), (q1, .inl (cI, 140, .inl (fun _ => 0))), (q2, .inl (cI, 132, .inl (fun _ => 0))), (q3, .inl (cI, 4, .inl (fun _ => 0))), (q4, .inl (cI, 256, .inl (fun _ => 0))), (q5, .inl (cI, 128, .inl (preT 0)))] H := by rw [← preT_0]; exact hP
  have hD : va_D A [(h0, .inr (1, [.int 0, .ref q0, .int 0, .int 0, .ref q1, .ref q2, .ref q3, .ref q4, .int 0, .null, .null, .null, .null])), (q0, .inl (cI, 8, .inl (fun _ => 0))), (q1, .inl (cI, 140, .inl (fun _ => 0))), (q2, .inl (cI, 132, .inl (fun _ => 0))), (q3, .inl (cI, 4, .inl (fun _ => 0))), (q4, .inl (cI, 256, .inl (fun _ => 0))), (q5, .inl (cI, 128, .inl (preT 0)))] := by rw [← preT_0]; exact hD
  refine lv_dup hx hb dX1_init_52 rfl ?_
  refine lv_iconst (v := nI 0) hx hb dX1_init_53 (by decide) ?_
  refine lv_iconst (v := nI 3) hx hb dX1_init_54 (by decide) ?_
  refine wk_iast hx hb hK hP hD hS 6 0 rfl rfl (k := 0) (x := nI 3) (by decide) (by decide) dX1_init_55 (fun H locs hP hD hS => ?_)
  simp only [List.set] at hP hD
  rw [preT_s 0 (show TB 0 = nI 3 from by decide +kernel)] at hP hD
  have hP : va_P D vwCl [(h0, .inr (1, [.int 0, .ref q0, .int 0, .int 0, .ref q1, .ref q2, .ref q3, .ref q4, .int 0, .null, .null, .null, .null])), (q0, .inl (cI, 8, .inl (fun _ => 0))), (q1, .inl (cI, 140, .inl (fun _ => 0))), (q2, .inl (cI, 132, .inl (fun _ => 0))), (q3, .inl (cI, 4, .inl (fun _ => 0))), (q4, .inl (cI, 256, .inl (fun _ => 0))), (q5, .inl (cI, 128, .inl (preT 1)))] H := hP
  have hD : va_D A [(h0, .inr (1, [.int 0, .ref q0, .int 0, .int 0, .ref q1, .ref q2, .ref q3, .ref q4, .int 0, .null, .null, .null, .null])), (q0, .inl (cI, 8, .inl (fun _ => 0))), (q1, .inl (cI, 140, .inl (fun _ => 0))), (q2, .inl (cI, 132, .inl (fun _ => 0))), (q3, .inl (cI, 4, .inl (fun _ => 0))), (q4, .inl (cI, 256, .inl (fun _ => 0))), (q5, .inl (cI, 128, .inl (preT 1)))] := hD
  refine lv_dup hx hb dX1_init_56 rfl ?_
  refine lv_iconst (v := nI 1) hx hb dX1_init_57 (by decide) ?_
  refine lv_bipush (v := nI 8) hx hb dX1_init_58 (by decide) ?_
  refine wk_iast hx hb hK hP hD hS 6 0 rfl rfl (k := 1) (x := nI 8) (by decide) (by decide) dX1_init_60 (fun H locs hP hD hS => ?_)
  simp only [List.set] at hP hD
  rw [preT_s 1 (show TB 1 = nI 8 from by decide +kernel)] at hP hD
  have hP : va_P D vwCl [(h0, .inr (1, [.int 0, .ref q0, .int 0, .int 0, .ref q1, .ref q2, .ref q3, .ref q4, .int 0, .null, .null, .null, .null])), (q0, .inl (cI, 8, .inl (fun _ => 0))), (q1, .inl (cI, 140, .inl (fun _ => 0))), (q2, .inl (cI, 132, .inl (fun _ => 0))), (q3, .inl (cI, 4, .inl (fun _ => 0))), (q4, .inl (cI, 256, .inl (fun _ => 0))), (q5, .inl (cI, 128, .inl (preT 2)))] H := hP
  have hD : va_D A [(h0, .inr (1, [.int 0, .ref q0, .int 0, .int 0, .ref q1, .ref q2, .ref q3, .ref q4, .int 0, .null, .null, .null, .null])), (q0, .inl (cI, 8, .inl (fun _ => 0))), (q1, .inl (cI, 140, .inl (fun _ => 0))), (q2, .inl (cI, 132, .inl (fun _ => 0))), (q3, .inl (cI, 4, .inl (fun _ => 0))), (q4, .inl (cI, 256, .inl (fun _ => 0))), (q5, .inl (cI, 128, .inl (preT 2)))] := hD
  refine lv_dup hx hb dX1_init_61 rfl ?_
  refine lv_iconst (v := nI 2) hx hb dX1_init_62 (by decide) ?_
  refine lv_bipush (v := nI 15) hx hb dX1_init_63 (by decide) ?_
  refine wk_iast hx hb hK hP hD hS 6 0 rfl rfl (k := 2) (x := nI 15) (by decide) (by decide) dX1_init_65 (fun H locs hP hD hS => ?_)
  simp only [List.set] at hP hD
  rw [preT_s 2 (show TB 2 = nI 15 from by decide +kernel)] at hP hD
  have hP : va_P D vwCl [(h0, .inr (1, [.int 0, .ref q0, .int 0, .int 0, .ref q1, .ref q2, .ref q3, .ref q4, .int 0, .null, .null, .null, .null])), (q0, .inl (cI, 8, .inl (fun _ => 0))), (q1, .inl (cI, 140, .inl (fun _ => 0))), (q2, .inl (cI, 132, .inl (fun _ => 0))), (q3, .inl (cI, 4, .inl (fun _ => 0))), (q4, .inl (cI, 256, .inl (fun _ => 0))), (q5, .inl (cI, 128, .inl (preT 3)))] H := hP
  have hD : va_D A [(h0, .inr (1, [.int 0, .ref q0, .int 0, .int 0, .ref q1, .ref q2, .ref q3, .ref q4, .int 0, .null, .null, .null, .null])), (q0, .inl (cI, 8, .inl (fun _ => 0))), (q1, .inl (cI, 140, .inl (fun _ => 0))), (q2, .inl (cI, 132, .inl (fun _ => 0))), (q3, .inl (cI, 4, .inl (fun _ => 0))), (q4, .inl (cI, 256, .inl (fun _ => 0))), (q5, .inl (cI, 128, .inl (preT 3)))] := hD
  refine lv_dup hx hb dX1_init_66 rfl ?_
  refine lv_iconst (v := nI 3) hx hb dX1_init_67 (by decide) ?_
  refine lv_iconst (v := nI 1) hx hb dX1_init_68 (by decide) ?_
  refine wk_iast hx hb hK hP hD hS 6 0 rfl rfl (k := 3) (x := nI 1) (by decide) (by decide) dX1_init_69 (fun H locs hP hD hS => ?_)
  simp only [List.set] at hP hD
  rw [preT_s 3 (show TB 3 = nI 1 from by decide +kernel)] at hP hD
  have hP : va_P D vwCl [(h0, .inr (1, [.int 0, .ref q0, .int 0, .int 0, .ref q1, .ref q2, .ref q3, .ref q4, .int 0, .null, .null, .null, .null])), (q0, .inl (cI, 8, .inl (fun _ => 0))), (q1, .inl (cI, 140, .inl (fun _ => 0))), (q2, .inl (cI, 132, .inl (fun _ => 0))), (q3, .inl (cI, 4, .inl (fun _ => 0))), (q4, .inl (cI, 256, .inl (fun _ => 0))), (q5, .inl (cI, 128, .inl (preT 4)))] H := hP
  have hD : va_D A [(h0, .inr (1, [.int 0, .ref q0, .int 0, .int 0, .ref q1, .ref q2, .ref q3, .ref q4, .int 0, .null, .null, .null, .null])), (q0, .inl (cI, 8, .inl (fun _ => 0))), (q1, .inl (cI, 140, .inl (fun _ => 0))), (q2, .inl (cI, 132, .inl (fun _ => 0))), (q3, .inl (cI, 4, .inl (fun _ => 0))), (q4, .inl (cI, 256, .inl (fun _ => 0))), (q5, .inl (cI, 128, .inl (preT 4)))] := hD
  refine lv_dup hx hb dX1_init_70 rfl ?_
  refine lv_iconst (v := nI 4) hx hb dX1_init_71 (by decide) ?_
  refine lv_bipush (v := nI 10) hx hb dX1_init_72 (by decide) ?_
  refine wk_iast hx hb hK hP hD hS 6 0 rfl rfl (k := 4) (x := nI 10) (by decide) (by decide) dX1_init_74 (fun H locs hP hD hS => ?_)
  simp only [List.set] at hP hD
  rw [preT_s 4 (show TB 4 = nI 10 from by decide +kernel)] at hP hD
  have hP : va_P D vwCl [(h0, .inr (1, [.int 0, .ref q0, .int 0, .int 0, .ref q1, .ref q2, .ref q3, .ref q4, .int 0, .null, .null, .null, .null])), (q0, .inl (cI, 8, .inl (fun _ => 0))), (q1, .inl (cI, 140, .inl (fun _ => 0))), (q2, .inl (cI, 132, .inl (fun _ => 0))), (q3, .inl (cI, 4, .inl (fun _ => 0))), (q4, .inl (cI, 256, .inl (fun _ => 0))), (q5, .inl (cI, 128, .inl (preT 5)))] H := hP
  have hD : va_D A [(h0, .inr (1, [.int 0, .ref q0, .int 0, .int 0, .ref q1, .ref q2, .ref q3, .ref q4, .int 0, .null, .null, .null, .null])), (q0, .inl (cI, 8, .inl (fun _ => 0))), (q1, .inl (cI, 140, .inl (fun _ => 0))), (q2, .inl (cI, 132, .inl (fun _ => 0))), (q3, .inl (cI, 4, .inl (fun _ => 0))), (q4, .inl (cI, 256, .inl (fun _ => 0))), (q5, .inl (cI, 128, .inl (preT 5)))] := hD
  refine lv_dup hx hb dX1_init_75 rfl ?_
  refine lv_iconst (v := nI 5) hx hb dX1_init_76 (by decide) ?_
  refine lv_bipush (v := nI 6) hx hb dX1_init_77 (by decide) ?_
  refine wk_iast hx hb hK hP hD hS 6 0 rfl rfl (k := 5) (x := nI 6) (by decide) (by decide) dX1_init_79 (fun H locs hP hD hS => ?_)
  simp only [List.set] at hP hD
  rw [preT_s 5 (show TB 5 = nI 6 from by decide +kernel)] at hP hD
  have hP : va_P D vwCl [(h0, .inr (1, [.int 0, .ref q0, .int 0, .int 0, .ref q1, .ref q2, .ref q3, .ref q4, .int 0, .null, .null, .null, .null])), (q0, .inl (cI, 8, .inl (fun _ => 0))), (q1, .inl (cI, 140, .inl (fun _ => 0))), (q2, .inl (cI, 132, .inl (fun _ => 0))), (q3, .inl (cI, 4, .inl (fun _ => 0))), (q4, .inl (cI, 256, .inl (fun _ => 0))), (q5, .inl (cI, 128, .inl (preT 6)))] H := hP
  have hD : va_D A [(h0, .inr (1, [.int 0, .ref q0, .int 0, .int 0, .ref q1, .ref q2, .ref q3, .ref q4, .int 0, .null, .null, .null, .null])), (q0, .inl (cI, 8, .inl (fun _ => 0))), (q1, .inl (cI, 140, .inl (fun _ => 0))), (q2, .inl (cI, 132, .inl (fun _ => 0))), (q3, .inl (cI, 4, .inl (fun _ => 0))), (q4, .inl (cI, 256, .inl (fun _ => 0))), (q5, .inl (cI, 128, .inl (preT 6)))] := hD
  refine lv_dup hx hb dX1_init_80 rfl ?_
  refine lv_bipush (v := nI 6) hx hb dX1_init_81 (by decide) ?_
  refine lv_iconst (v := nI 5) hx hb dX1_init_83 (by decide) ?_
  refine wk_iast hx hb hK hP hD hS 6 0 rfl rfl (k := 6) (x := nI 5) (by decide) (by decide) dX1_init_84 (fun H locs hP hD hS => ?_)
  simp only [List.set] at hP hD
  rw [preT_s 6 (show TB 6 = nI 5 from by decide +kernel)] at hP hD
  have hP : va_P D vwCl [(h0, .inr (1, [.int 0, .ref q0, .int 0, .int 0, .ref q1, .ref q2, .ref q3, .ref q4, .int 0, .null, .null, .null, .null])), (q0, .inl (cI, 8, .inl (fun _ => 0))), (q1, .inl (cI, 140, .inl (fun _ => 0))), (q2, .inl (cI, 132, .inl (fun _ => 0))), (q3, .inl (cI, 4, .inl (fun _ => 0))), (q4, .inl (cI, 256, .inl (fun _ => 0))), (q5, .inl (cI, 128, .inl (preT 7)))] H := hP
  have hD : va_D A [(h0, .inr (1, [.int 0, .ref q0, .int 0, .int 0, .ref q1, .ref q2, .ref q3, .ref q4, .int 0, .null, .null, .null, .null])), (q0, .inl (cI, 8, .inl (fun _ => 0))), (q1, .inl (cI, 140, .inl (fun _ => 0))), (q2, .inl (cI, 132, .inl (fun _ => 0))), (q3, .inl (cI, 4, .inl (fun _ => 0))), (q4, .inl (cI, 256, .inl (fun _ => 0))), (q5, .inl (cI, 128, .inl (preT 7)))] := hD
  refine lv_dup hx hb dX1_init_85 rfl ?_
  refine lv_bipush (v := nI 7) hx hb dX1_init_86 (by decide) ?_
  refine lv_bipush (v := nI 11) hx hb dX1_init_88 (by decide) ?_
  refine wk_iast hx hb hK hP hD hS 6 0 rfl rfl (k := 7) (x := nI 11) (by decide) (by decide) dX1_init_90 (fun H locs hP hD hS => ?_)
  simp only [List.set] at hP hD
  rw [preT_s 7 (show TB 7 = nI 11 from by decide +kernel)] at hP hD
  have hP : va_P D vwCl [(h0, .inr (1, [.int 0, .ref q0, .int 0, .int 0, .ref q1, .ref q2, .ref q3, .ref q4, .int 0, .null, .null, .null, .null])), (q0, .inl (cI, 8, .inl (fun _ => 0))), (q1, .inl (cI, 140, .inl (fun _ => 0))), (q2, .inl (cI, 132, .inl (fun _ => 0))), (q3, .inl (cI, 4, .inl (fun _ => 0))), (q4, .inl (cI, 256, .inl (fun _ => 0))), (q5, .inl (cI, 128, .inl (preT 8)))] H := hP
  have hD : va_D A [(h0, .inr (1, [.int 0, .ref q0, .int 0, .int 0, .ref q1, .ref q2, .ref q3, .ref q4, .int 0, .null, .null, .null, .null])), (q0, .inl (cI, 8, .inl (fun _ => 0))), (q1, .inl (cI, 140, .inl (fun _ => 0))), (q2, .inl (cI, 132, .inl (fun _ => 0))), (q3, .inl (cI, 4, .inl (fun _ => 0))), (q4, .inl (cI, 256, .inl (fun _ => 0))), (q5, .inl (cI, 128, .inl (preT 8)))] := hD
  refine lv_dup hx hb dX1_init_91 rfl ?_
  refine lv_bipush (v := nI 8) hx hb dX1_init_92 (by decide) ?_
  refine lv_bipush (v := nI 14) hx hb dX1_init_94 (by decide) ?_
  refine wk_iast hx hb hK hP hD hS 6 0 rfl rfl (k := 8) (x := nI 14) (by decide) (by decide) dX1_init_96 (fun H locs hP hD hS => ?_)
  simp only [List.set] at hP hD
  rw [preT_s 8 (show TB 8 = nI 14 from by decide +kernel)] at hP hD
  have hP : va_P D vwCl [(h0, .inr (1, [.int 0, .ref q0, .int 0, .int 0, .ref q1, .ref q2, .ref q3, .ref q4, .int 0, .null, .null, .null, .null])), (q0, .inl (cI, 8, .inl (fun _ => 0))), (q1, .inl (cI, 140, .inl (fun _ => 0))), (q2, .inl (cI, 132, .inl (fun _ => 0))), (q3, .inl (cI, 4, .inl (fun _ => 0))), (q4, .inl (cI, 256, .inl (fun _ => 0))), (q5, .inl (cI, 128, .inl (preT 9)))] H := hP
  have hD : va_D A [(h0, .inr (1, [.int 0, .ref q0, .int 0, .int 0, .ref q1, .ref q2, .ref q3, .ref q4, .int 0, .null, .null, .null, .null])), (q0, .inl (cI, 8, .inl (fun _ => 0))), (q1, .inl (cI, 140, .inl (fun _ => 0))), (q2, .inl (cI, 132, .inl (fun _ => 0))), (q3, .inl (cI, 4, .inl (fun _ => 0))), (q4, .inl (cI, 256, .inl (fun _ => 0))), (q5, .inl (cI, 128, .inl (preT 9)))] := hD
  refine lv_dup hx hb dX1_init_97 rfl ?_
  refine lv_bipush (v := nI 9) hx hb dX1_init_98 (by decide) ?_
  refine lv_bipush (v := nI 13) hx hb dX1_init_100 (by decide) ?_
  refine wk_iast hx hb hK hP hD hS 6 0 rfl rfl (k := 9) (x := nI 13) (by decide) (by decide) dX1_init_102 (fun H locs hP hD hS => ?_)
  simp only [List.set] at hP hD
  rw [preT_s 9 (show TB 9 = nI 13 from by decide +kernel)] at hP hD
  have hP : va_P D vwCl [(h0, .inr (1, [.int 0, .ref q0, .int 0, .int 0, .ref q1, .ref q2, .ref q3, .ref q4, .int 0, .null, .null, .null, .null])), (q0, .inl (cI, 8, .inl (fun _ => 0))), (q1, .inl (cI, 140, .inl (fun _ => 0))), (q2, .inl (cI, 132, .inl (fun _ => 0))), (q3, .inl (cI, 4, .inl (fun _ => 0))), (q4, .inl (cI, 256, .inl (fun _ => 0))), (q5, .inl (cI, 128, .inl (preT 10)))] H := hP
  have hD : va_D A [(h0, .inr (1, [.int 0, .ref q0, .int 0, .int 0, .ref q1, .ref q2, .ref q3, .ref q4, .int 0, .null, .null, .null, .null])), (q0, .inl (cI, 8, .inl (fun _ => 0))), (q1, .inl (cI, 140, .inl (fun _ => 0))), (q2, .inl (cI, 132, .inl (fun _ => 0))), (q3, .inl (cI, 4, .inl (fun _ => 0))), (q4, .inl (cI, 256, .inl (fun _ => 0))), (q5, .inl (cI, 128, .inl (preT 10)))] := hD
  refine lv_dup hx hb dX1_init_103 rfl ?_
  refine lv_bipush (v := nI 10) hx hb dX1_init_104 (by decide) ?_
  refine lv_iconst (v := nI 4) hx hb dX1_init_106 (by decide) ?_
  refine wk_iast hx hb hK hP hD hS 6 0 rfl rfl (k := 10) (x := nI 4) (by decide) (by decide) dX1_init_107 (fun H locs hP hD hS => ?_)
  simp only [List.set] at hP hD
  rw [preT_s 10 (show TB 10 = nI 4 from by decide +kernel)] at hP hD
  have hP : va_P D vwCl [(h0, .inr (1, [.int 0, .ref q0, .int 0, .int 0, .ref q1, .ref q2, .ref q3, .ref q4, .int 0, .null, .null, .null, .null])), (q0, .inl (cI, 8, .inl (fun _ => 0))), (q1, .inl (cI, 140, .inl (fun _ => 0))), (q2, .inl (cI, 132, .inl (fun _ => 0))), (q3, .inl (cI, 4, .inl (fun _ => 0))), (q4, .inl (cI, 256, .inl (fun _ => 0))), (q5, .inl (cI, 128, .inl (preT 11)))] H := hP
  have hD : va_D A [(h0, .inr (1, [.int 0, .ref q0, .int 0, .int 0, .ref q1, .ref q2, .ref q3, .ref q4, .int 0, .null, .null, .null, .null])), (q0, .inl (cI, 8, .inl (fun _ => 0))), (q1, .inl (cI, 140, .inl (fun _ => 0))), (q2, .inl (cI, 132, .inl (fun _ => 0))), (q3, .inl (cI, 4, .inl (fun _ => 0))), (q4, .inl (cI, 256, .inl (fun _ => 0))), (q5, .inl (cI, 128, .inl (preT 11)))] := hD
  refine lv_dup hx hb dX1_init_108 rfl ?_
  refine lv_bipush (v := nI 11) hx hb dX1_init_109 (by decide) ?_
  refine lv_iconst (v := nI 2) hx hb dX1_init_111 (by decide) ?_
  refine wk_iast hx hb hK hP hD hS 6 0 rfl rfl (k := 11) (x := nI 2) (by decide) (by decide) dX1_init_112 (fun H locs hP hD hS => ?_)
  simp only [List.set] at hP hD
  rw [preT_s 11 (show TB 11 = nI 2 from by decide +kernel)] at hP hD
  have hP : va_P D vwCl [(h0, .inr (1, [.int 0, .ref q0, .int 0, .int 0, .ref q1, .ref q2, .ref q3, .ref q4, .int 0, .null, .null, .null, .null])), (q0, .inl (cI, 8, .inl (fun _ => 0))), (q1, .inl (cI, 140, .inl (fun _ => 0))), (q2, .inl (cI, 132, .inl (fun _ => 0))), (q3, .inl (cI, 4, .inl (fun _ => 0))), (q4, .inl (cI, 256, .inl (fun _ => 0))), (q5, .inl (cI, 128, .inl (preT 12)))] H := hP
  have hD : va_D A [(h0, .inr (1, [.int 0, .ref q0, .int 0, .int 0, .ref q1, .ref q2, .ref q3, .ref q4, .int 0, .null, .null, .null, .null])), (q0, .inl (cI, 8, .inl (fun _ => 0))), (q1, .inl (cI, 140, .inl (fun _ => 0))), (q2, .inl (cI, 132, .inl (fun _ => 0))), (q3, .inl (cI, 4, .inl (fun _ => 0))), (q4, .inl (cI, 256, .inl (fun _ => 0))), (q5, .inl (cI, 128, .inl (preT 12)))] := hD
  refine lv_dup hx hb dX1_init_113 rfl ?_
  refine lv_bipush (v := nI 12) hx hb dX1_init_114 (by decide) ?_
  refine lv_bipush (v := nI 7) hx hb dX1_init_116 (by decide) ?_
  refine wk_iast hx hb hK hP hD hS 6 0 rfl rfl (k := 12) (x := nI 7) (by decide) (by decide) dX1_init_118 (fun H locs hP hD hS => ?_)
  simp only [List.set] at hP hD
  rw [preT_s 12 (show TB 12 = nI 7 from by decide +kernel)] at hP hD
  have hP : va_P D vwCl [(h0, .inr (1, [.int 0, .ref q0, .int 0, .int 0, .ref q1, .ref q2, .ref q3, .ref q4, .int 0, .null, .null, .null, .null])), (q0, .inl (cI, 8, .inl (fun _ => 0))), (q1, .inl (cI, 140, .inl (fun _ => 0))), (q2, .inl (cI, 132, .inl (fun _ => 0))), (q3, .inl (cI, 4, .inl (fun _ => 0))), (q4, .inl (cI, 256, .inl (fun _ => 0))), (q5, .inl (cI, 128, .inl (preT 13)))] H := hP
  have hD : va_D A [(h0, .inr (1, [.int 0, .ref q0, .int 0, .int 0, .ref q1, .ref q2, .ref q3, .ref q4, .int 0, .null, .null, .null, .null])), (q0, .inl (cI, 8, .inl (fun _ => 0))), (q1, .inl (cI, 140, .inl (fun _ => 0))), (q2, .inl (cI, 132, .inl (fun _ => 0))), (q3, .inl (cI, 4, .inl (fun _ => 0))), (q4, .inl (cI, 256, .inl (fun _ => 0))), (q5, .inl (cI, 128, .inl (preT 13)))] := hD
  refine lv_dup hx hb dX1_init_119 rfl ?_
  refine lv_bipush (v := nI 13) hx hb dX1_init_120 (by decide) ?_
  refine lv_iconst (v := nI 0) hx hb dX1_init_122 (by decide) ?_
  refine wk_iast hx hb hK hP hD hS 6 0 rfl rfl (k := 13) (x := nI 0) (by decide) (by decide) dX1_init_123 (fun H locs hP hD hS => ?_)
  simp only [List.set] at hP hD
  rw [preT_s 13 (show TB 13 = nI 0 from by decide +kernel)] at hP hD
  have hP : va_P D vwCl [(h0, .inr (1, [.int 0, .ref q0, .int 0, .int 0, .ref q1, .ref q2, .ref q3, .ref q4, .int 0, .null, .null, .null, .null])), (q0, .inl (cI, 8, .inl (fun _ => 0))), (q1, .inl (cI, 140, .inl (fun _ => 0))), (q2, .inl (cI, 132, .inl (fun _ => 0))), (q3, .inl (cI, 4, .inl (fun _ => 0))), (q4, .inl (cI, 256, .inl (fun _ => 0))), (q5, .inl (cI, 128, .inl (preT 14)))] H := hP
  have hD : va_D A [(h0, .inr (1, [.int 0, .ref q0, .int 0, .int 0, .ref q1, .ref q2, .ref q3, .ref q4, .int 0, .null, .null, .null, .null])), (q0, .inl (cI, 8, .inl (fun _ => 0))), (q1, .inl (cI, 140, .inl (fun _ => 0))), (q2, .inl (cI, 132, .inl (fun _ => 0))), (q3, .inl (cI, 4, .inl (fun _ => 0))), (q4, .inl (cI, 256, .inl (fun _ => 0))), (q5, .inl (cI, 128, .inl (preT 14)))] := hD
  refine lv_dup hx hb dX1_init_124 rfl ?_
  refine lv_bipush (v := nI 14) hx hb dX1_init_125 (by decide) ?_
  refine lv_bipush (v := nI 9) hx hb dX1_init_127 (by decide) ?_
  refine wk_iast hx hb hK hP hD hS 6 0 rfl rfl (k := 14) (x := nI 9) (by decide) (by decide) dX1_init_129 (fun H locs hP hD hS => ?_)
  simp only [List.set] at hP hD
  rw [preT_s 14 (show TB 14 = nI 9 from by decide +kernel)] at hP hD
  have hP : va_P D vwCl [(h0, .inr (1, [.int 0, .ref q0, .int 0, .int 0, .ref q1, .ref q2, .ref q3, .ref q4, .int 0, .null, .null, .null, .null])), (q0, .inl (cI, 8, .inl (fun _ => 0))), (q1, .inl (cI, 140, .inl (fun _ => 0))), (q2, .inl (cI, 132, .inl (fun _ => 0))), (q3, .inl (cI, 4, .inl (fun _ => 0))), (q4, .inl (cI, 256, .inl (fun _ => 0))), (q5, .inl (cI, 128, .inl (preT 15)))] H := hP
  have hD : va_D A [(h0, .inr (1, [.int 0, .ref q0, .int 0, .int 0, .ref q1, .ref q2, .ref q3, .ref q4, .int 0, .null, .null, .null, .null])), (q0, .inl (cI, 8, .inl (fun _ => 0))), (q1, .inl (cI, 140, .inl (fun _ => 0))), (q2, .inl (cI, 132, .inl (fun _ => 0))), (q3, .inl (cI, 4, .inl (fun _ => 0))), (q4, .inl (cI, 256, .inl (fun _ => 0))), (q5, .inl (cI, 128, .inl (preT 15)))] := hD
  refine lv_dup hx hb dX1_init_130 rfl ?_
  refine lv_bipush (v := nI 15) hx hb dX1_init_131 (by decide) ?_
  refine lv_bipush (v := nI 12) hx hb dX1_init_133 (by decide) ?_
  refine wk_iast hx hb hK hP hD hS 6 0 rfl rfl (k := 15) (x := nI 12) (by decide) (by decide) dX1_init_135 (fun H locs hP hD hS => ?_)
  simp only [List.set] at hP hD
  rw [preT_s 15 (show TB 15 = nI 12 from by decide +kernel)] at hP hD
  have hP : va_P D vwCl [(h0, .inr (1, [.int 0, .ref q0, .int 0, .int 0, .ref q1, .ref q2, .ref q3, .ref q4, .int 0, .null, .null, .null, .null])), (q0, .inl (cI, 8, .inl (fun _ => 0))), (q1, .inl (cI, 140, .inl (fun _ => 0))), (q2, .inl (cI, 132, .inl (fun _ => 0))), (q3, .inl (cI, 4, .inl (fun _ => 0))), (q4, .inl (cI, 256, .inl (fun _ => 0))), (q5, .inl (cI, 128, .inl (preT 16)))] H := hP
  have hD : va_D A [(h0, .inr (1, [.int 0, .ref q0, .int 0, .int 0, .ref q1, .ref q2, .ref q3, .ref q4, .int 0, .null, .null, .null, .null])), (q0, .inl (cI, 8, .inl (fun _ => 0))), (q1, .inl (cI, 140, .inl (fun _ => 0))), (q2, .inl (cI, 132, .inl (fun _ => 0))), (q3, .inl (cI, 4, .inl (fun _ => 0))), (q4, .inl (cI, 256, .inl (fun _ => 0))), (q5, .inl (cI, 128, .inl (preT 16)))] := hD
  refine lv_dup hx hb dX1_init_136 rfl ?_
  refine lv_bipush (v := nI 16) hx hb dX1_init_137 (by decide) ?_
  refine lv_bipush (v := nI 15) hx hb dX1_init_139 (by decide) ?_
  refine wk_iast hx hb hK hP hD hS 6 0 rfl rfl (k := 16) (x := nI 15) (by decide) (by decide) dX1_init_141 (fun H locs hP hD hS => ?_)
  simp only [List.set] at hP hD
  rw [preT_s 16 (show TB 16 = nI 15 from by decide +kernel)] at hP hD
  have hP : va_P D vwCl [(h0, .inr (1, [.int 0, .ref q0, .int 0, .int 0, .ref q1, .ref q2, .ref q3, .ref q4, .int 0, .null, .null, .null, .null])), (q0, .inl (cI, 8, .inl (fun _ => 0))), (q1, .inl (cI, 140, .inl (fun _ => 0))), (q2, .inl (cI, 132, .inl (fun _ => 0))), (q3, .inl (cI, 4, .inl (fun _ => 0))), (q4, .inl (cI, 256, .inl (fun _ => 0))), (q5, .inl (cI, 128, .inl (preT 17)))] H := hP
  have hD : va_D A [(h0, .inr (1, [.int 0, .ref q0, .int 0, .int 0, .ref q1, .ref q2, .ref q3, .ref q4, .int 0, .null, .null, .null, .null])), (q0, .inl (cI, 8, .inl (fun _ => 0))), (q1, .inl (cI, 140, .inl (fun _ => 0))), (q2, .inl (cI, 132, .inl (fun _ => 0))), (q3, .inl (cI, 4, .inl (fun _ => 0))), (q4, .inl (cI, 256, .inl (fun _ => 0))), (q5, .inl (cI, 128, .inl (preT 17)))] := hD
  refine lv_dup hx hb dX1_init_142 rfl ?_
  refine lv_bipush (v := nI 17) hx hb dX1_init_143 (by decide) ?_
  refine lv_bipush (v := nI 12) hx hb dX1_init_145 (by decide) ?_
  refine wk_iast hx hb hK hP hD hS 6 0 rfl rfl (k := 17) (x := nI 12) (by decide) (by decide) dX1_init_147 (fun H locs hP hD hS => ?_)
  simp only [List.set] at hP hD
  rw [preT_s 17 (show TB 17 = nI 12 from by decide +kernel)] at hP hD
  have hP : va_P D vwCl [(h0, .inr (1, [.int 0, .ref q0, .int 0, .int 0, .ref q1, .ref q2, .ref q3, .ref q4, .int 0, .null, .null, .null, .null])), (q0, .inl (cI, 8, .inl (fun _ => 0))), (q1, .inl (cI, 140, .inl (fun _ => 0))), (q2, .inl (cI, 132, .inl (fun _ => 0))), (q3, .inl (cI, 4, .inl (fun _ => 0))), (q4, .inl (cI, 256, .inl (fun _ => 0))), (q5, .inl (cI, 128, .inl (preT 18)))] H := hP
  have hD : va_D A [(h0, .inr (1, [.int 0, .ref q0, .int 0, .int 0, .ref q1, .ref q2, .ref q3, .ref q4, .int 0, .null, .null, .null, .null])), (q0, .inl (cI, 8, .inl (fun _ => 0))), (q1, .inl (cI, 140, .inl (fun _ => 0))), (q2, .inl (cI, 132, .inl (fun _ => 0))), (q3, .inl (cI, 4, .inl (fun _ => 0))), (q4, .inl (cI, 256, .inl (fun _ => 0))), (q5, .inl (cI, 128, .inl (preT 18)))] := hD
  refine lv_dup hx hb dX1_init_148 rfl ?_
  refine lv_bipush (v := nI 18) hx hb dX1_init_149 (by decide) ?_
  refine lv_iconst (v := nI 2) hx hb dX1_init_151 (by decide) ?_
  refine wk_iast hx hb hK hP hD hS 6 0 rfl rfl (k := 18) (x := nI 2) (by decide) (by decide) dX1_init_152 (fun H locs hP hD hS => ?_)
  simp only [List.set] at hP hD
  rw [preT_s 18 (show TB 18 = nI 2 from by decide +kernel)] at hP hD
  have hP : va_P D vwCl [(h0, .inr (1, [.int 0, .ref q0, .int 0, .int 0, .ref q1, .ref q2, .ref q3, .ref q4, .int 0, .null, .null, .null, .null])), (q0, .inl (cI, 8, .inl (fun _ => 0))), (q1, .inl (cI, 140, .inl (fun _ => 0))), (q2, .inl (cI, 132, .inl (fun _ => 0))), (q3, .inl (cI, 4, .inl (fun _ => 0))), (q4, .inl (cI, 256, .inl (fun _ => 0))), (q5, .inl (cI, 128, .inl (preT 19)))] H := hP
  have hD : va_D A [(h0, .inr (1, [.int 0, .ref q0, .int 0, .int 0, .ref q1, .ref q2, .ref q3, .ref q4, .int 0, .null, .null, .null, .null])), (q0, .inl (cI, 8, .inl (fun _ => 0))), (q1, .inl (cI, 140, .inl (fun _ => 0))), (q2, .inl (cI, 132, .inl (fun _ => 0))), (q3, .inl (cI, 4, .inl (fun _ => 0))), (q4, .inl (cI, 256, .inl (fun _ => 0))), (q5, .inl (cI, 128, .inl (preT 19)))] := hD
  refine lv_dup hx hb dX1_init_153 rfl ?_
  refine lv_bipush (v := nI 19) hx hb dX1_init_154 (by decide) ?_
  refine lv_bipush (v := nI 7) hx hb dX1_init_156 (by decide) ?_
  refine wk_iast hx hb hK hP hD hS 6 0 rfl rfl (k := 19) (x := nI 7) (by decide) (by decide) dX1_init_158 (fun H locs hP hD hS => ?_)
  simp only [List.set] at hP hD
  rw [preT_s 19 (show TB 19 = nI 7 from by decide +kernel)] at hP hD
  have hP : va_P D vwCl [(h0, .inr (1, [.int 0, .ref q0, .int 0, .int 0, .ref q1, .ref q2, .ref q3, .ref q4, .int 0, .null, .null, .null, .null])), (q0, .inl (cI, 8, .inl (fun _ => 0))), (q1, .inl (cI, 140, .inl (fun _ => 0))), (q2, .inl (cI, 132, .inl (fun _ => 0))), (q3, .inl (cI, 4, .inl (fun _ => 0))), (q4, .inl (cI, 256, .inl (fun _ => 0))), (q5, .inl (cI, 128, .inl (preT 20)))] H := hP
  have hD : va_D A [(h0, .inr (1, [.int 0, .ref q0, .int 0, .int 0, .ref q1, .ref q2, .ref q3, .ref q4, .int 0, .null, .null, .null, .null])), (q0, .inl (cI, 8, .inl (fun _ => 0))), (q1, .inl (cI, 140, .inl (fun _ => 0))), (q2, .inl (cI, 132, .inl (fun _ => 0))), (q3, .inl (cI, 4, .inl (fun _ => 0))), (q4, .inl (cI, 256, .inl (fun _ => 0))), (q5, .inl (cI, 128, .inl (preT 20)))] := hD
  refine lv_dup hx hb dX1_init_159 rfl ?_
  refine lv_bipush (v := nI 20) hx hb dX1_init_160 (by decide) ?_
  refine lv_bipush (v := nI 9) hx hb dX1_init_162 (by decide) ?_
  refine wk_iast hx hb hK hP hD hS 6 0 rfl rfl (k := 20) (x := nI 9) (by decide) (by decide) dX1_init_164 (fun H locs hP hD hS => ?_)
  simp only [List.set] at hP hD
  rw [preT_s 20 (show TB 20 = nI 9 from by decide +kernel)] at hP hD
  have hP : va_P D vwCl [(h0, .inr (1, [.int 0, .ref q0, .int 0, .int 0, .ref q1, .ref q2, .ref q3, .ref q4, .int 0, .null, .null, .null, .null])), (q0, .inl (cI, 8, .inl (fun _ => 0))), (q1, .inl (cI, 140, .inl (fun _ => 0))), (q2, .inl (cI, 132, .inl (fun _ => 0))), (q3, .inl (cI, 4, .inl (fun _ => 0))), (q4, .inl (cI, 256, .inl (fun _ => 0))), (q5, .inl (cI, 128, .inl (preT 21)))] H := hP
  have hD : va_D A [(h0, .inr (1, [.int 0, .ref q0, .int 0, .int 0, .ref q1, .ref q2, .ref q3, .ref q4, .int 0, .null, .null, .null, .null])), (q0, .inl (cI, 8, .inl (fun _ => 0))), (q1, .inl (cI, 140, .inl (fun _ => 0))), (q2, .inl (cI, 132, .inl (fun _ => 0))), (q3, .inl (cI, 4, .inl (fun _ => 0))), (q4, .inl (cI, 256, .inl (fun _ => 0))), (q5, .inl (cI, 128, .inl (preT 21)))] := hD
  refine lv_dup hx hb dX1_init_165 rfl ?_
  refine lv_bipush (v := nI 21) hx hb dX1_init_166 (by decide) ?_
  refine lv_iconst (v := nI 0) hx hb dX1_init_168 (by decide) ?_
  refine wk_iast hx hb hK hP hD hS 6 0 rfl rfl (k := 21) (x := nI 0) (by decide) (by decide) dX1_init_169 (fun H locs hP hD hS => ?_)
  simp only [List.set] at hP hD
  rw [preT_s 21 (show TB 21 = nI 0 from by decide +kernel)] at hP hD
  have hP : va_P D vwCl [(h0, .inr (1, [.int 0, .ref q0, .int 0, .int 0, .ref q1, .ref q2, .ref q3, .ref q4, .int 0, .null, .null, .null, .null])), (q0, .inl (cI, 8, .inl (fun _ => 0))), (q1, .inl (cI, 140, .inl (fun _ => 0))), (q2, .inl (cI, 132, .inl (fun _ => 0))), (q3, .inl (cI, 4, .inl (fun _ => 0))), (q4, .inl (cI, 256, .inl (fun _ => 0))), (q5, .inl (cI, 128, .inl (preT 22)))] H := hP
  have hD : va_D A [(h0, .inr (1, [.int 0, .ref q0, .int 0, .int 0, .ref q1, .ref q2, .ref q3, .ref q4, .int 0, .null, .null, .null, .null])), (q0, .inl (cI, 8, .inl (fun _ => 0))), (q1, .inl (cI, 140, .inl (fun _ => 0))), (q2, .inl (cI, 132, .inl (fun _ => 0))), (q3, .inl (cI, 4, .inl (fun _ => 0))), (q4, .inl (cI, 256, .inl (fun _ => 0))), (q5, .inl (cI, 128, .inl (preT 22)))] := hD
  refine lv_dup hx hb dX1_init_170 rfl ?_
  refine lv_bipush (v := nI 22) hx hb dX1_init_171 (by decide) ?_
  refine lv_iconst (v := nI 5) hx hb dX1_init_173 (by decide) ?_
  refine wk_iast hx hb hK hP hD hS 6 0 rfl rfl (k := 22) (x := nI 5) (by decide) (by decide) dX1_init_174 (fun H locs hP hD hS => ?_)
  simp only [List.set] at hP hD
  rw [preT_s 22 (show TB 22 = nI 5 from by decide +kernel)] at hP hD
  have hP : va_P D vwCl [(h0, .inr (1, [.int 0, .ref q0, .int 0, .int 0, .ref q1, .ref q2, .ref q3, .ref q4, .int 0, .null, .null, .null, .null])), (q0, .inl (cI, 8, .inl (fun _ => 0))), (q1, .inl (cI, 140, .inl (fun _ => 0))), (q2, .inl (cI, 132, .inl (fun _ => 0))), (q3, .inl (cI, 4, .inl (fun _ => 0))), (q4, .inl (cI, 256, .inl (fun _ => 0))), (q5, .inl (cI, 128, .inl (preT 23)))] H := hP
  have hD : va_D A [(h0, .inr (1, [.int 0, .ref q0, .int 0, .int 0, .ref q1, .ref q2, .ref q3, .ref q4, .int 0, .null, .null, .null, .null])), (q0, .inl (cI, 8, .inl (fun _ => 0))), (q1, .inl (cI, 140, .inl (fun _ => 0))), (q2, .inl (cI, 132, .inl (fun _ => 0))), (q3, .inl (cI, 4, .inl (fun _ => 0))), (q4, .inl (cI, 256, .inl (fun _ => 0))), (q5, .inl (cI, 128, .inl (preT 23)))] := hD
  refine lv_dup hx hb dX1_init_175 rfl ?_
  refine lv_bipush (v := nI 23) hx hb dX1_init_176 (by decide) ?_
  refine lv_bipush (v := nI 10) hx hb dX1_init_178 (by decide) ?_
  refine wk_iast hx hb hK hP hD hS 6 0 rfl rfl (k := 23) (x := nI 10) (by decide) (by decide) dX1_init_180 (fun H locs hP hD hS => ?_)
  simp only [List.set] at hP hD
  rw [preT_s 23 (show TB 23 = nI 10 from by decide +kernel)] at hP hD
  have hP : va_P D vwCl [(h0, .inr (1, [.int 0, .ref q0, .int 0, .int 0, .ref q1, .ref q2, .ref q3, .ref q4, .int 0, .null, .null, .null, .null])), (q0, .inl (cI, 8, .inl (fun _ => 0))), (q1, .inl (cI, 140, .inl (fun _ => 0))), (q2, .inl (cI, 132, .inl (fun _ => 0))), (q3, .inl (cI, 4, .inl (fun _ => 0))), (q4, .inl (cI, 256, .inl (fun _ => 0))), (q5, .inl (cI, 128, .inl (preT 24)))] H := hP
  have hD : va_D A [(h0, .inr (1, [.int 0, .ref q0, .int 0, .int 0, .ref q1, .ref q2, .ref q3, .ref q4, .int 0, .null, .null, .null, .null])), (q0, .inl (cI, 8, .inl (fun _ => 0))), (q1, .inl (cI, 140, .inl (fun _ => 0))), (q2, .inl (cI, 132, .inl (fun _ => 0))), (q3, .inl (cI, 4, .inl (fun _ => 0))), (q4, .inl (cI, 256, .inl (fun _ => 0))), (q5, .inl (cI, 128, .inl (preT 24)))] := hD
  refine lv_dup hx hb dX1_init_181 rfl ?_
  refine lv_bipush (v := nI 24) hx hb dX1_init_182 (by decide) ?_
  refine lv_iconst (v := nI 1) hx hb dX1_init_184 (by decide) ?_
  refine wk_iast hx hb hK hP hD hS 6 0 rfl rfl (k := 24) (x := nI 1) (by decide) (by decide) dX1_init_185 (fun H locs hP hD hS => ?_)
  simp only [List.set] at hP hD
  rw [preT_s 24 (show TB 24 = nI 1 from by decide +kernel)] at hP hD
  have hP : va_P D vwCl [(h0, .inr (1, [.int 0, .ref q0, .int 0, .int 0, .ref q1, .ref q2, .ref q3, .ref q4, .int 0, .null, .null, .null, .null])), (q0, .inl (cI, 8, .inl (fun _ => 0))), (q1, .inl (cI, 140, .inl (fun _ => 0))), (q2, .inl (cI, 132, .inl (fun _ => 0))), (q3, .inl (cI, 4, .inl (fun _ => 0))), (q4, .inl (cI, 256, .inl (fun _ => 0))), (q5, .inl (cI, 128, .inl (preT 25)))] H := hP
  have hD : va_D A [(h0, .inr (1, [.int 0, .ref q0, .int 0, .int 0, .ref q1, .ref q2, .ref q3, .ref q4, .int 0, .null, .null, .null, .null])), (q0, .inl (cI, 8, .inl (fun _ => 0))), (q1, .inl (cI, 140, .inl (fun _ => 0))), (q2, .inl (cI, 132, .inl (fun _ => 0))), (q3, .inl (cI, 4, .inl (fun _ => 0))), (q4, .inl (cI, 256, .inl (fun _ => 0))), (q5, .inl (cI, 128, .inl (preT 25)))] := hD
  refine lv_dup hx hb dX1_init_186 rfl ?_
  refine lv_bipush (v := nI 25) hx hb dX1_init_187 (by decide) ?_
  refine lv_bipush (v := nI 11) hx hb dX1_init_189 (by decide) ?_
  refine wk_iast hx hb hK hP hD hS 6 0 rfl rfl (k := 25) (x := nI 11) (by decide) (by decide) dX1_init_191 (fun H locs hP hD hS => ?_)
  simp only [List.set] at hP hD
  rw [preT_s 25 (show TB 25 = nI 11 from by decide +kernel)] at hP hD
  have hP : va_P D vwCl [(h0, .inr (1, [.int 0, .ref q0, .int 0, .int 0, .ref q1, .ref q2, .ref q3, .ref q4, .int 0, .null, .null, .null, .null])), (q0, .inl (cI, 8, .inl (fun _ => 0))), (q1, .inl (cI, 140, .inl (fun _ => 0))), (q2, .inl (cI, 132, .inl (fun _ => 0))), (q3, .inl (cI, 4, .inl (fun _ => 0))), (q4, .inl (cI, 256, .inl (fun _ => 0))), (q5, .inl (cI, 128, .inl (preT 26)))] H := hP
  have hD : va_D A [(h0, .inr (1, [.int 0, .ref q0, .int 0, .int 0, .ref q1, .ref q2, .ref q3, .ref q4, .int 0, .null, .null, .null, .null])), (q0, .inl (cI, 8, .inl (fun _ => 0))), (q1, .inl (cI, 140, .inl (fun _ => 0))), (q2, .inl (cI, 132, .inl (fun _ => 0))), (q3, .inl (cI, 4, .inl (fun _ => 0))), (q4, .inl (cI, 256, .inl (fun _ => 0))), (q5, .inl (cI, 128, .inl (preT 26)))] := hD
  refine lv_dup hx hb dX1_init_192 rfl ?_
  refine lv_bipush (v := nI 26) hx hb dX1_init_193 (by decide) ?_
  refine lv_bipush (v := nI 14) hx hb dX1_init_195 (by decide) ?_
  refine wk_iast hx hb hK hP hD hS 6 0 rfl rfl (k := 26) (x := nI 14) (by decide) (by decide) dX1_init_197 (fun H locs hP hD hS => ?_)
  simp only [List.set] at hP hD
  rw [preT_s 26 (show TB 26 = nI 14 from by decide +kernel)] at hP hD
  have hP : va_P D vwCl [(h0, .inr (1, [.int 0, .ref q0, .int 0, .int 0, .ref q1, .ref q2, .ref q3, .ref q4, .int 0, .null, .null, .null, .null])), (q0, .inl (cI, 8, .inl (fun _ => 0))), (q1, .inl (cI, 140, .inl (fun _ => 0))), (q2, .inl (cI, 132, .inl (fun _ => 0))), (q3, .inl (cI, 4, .inl (fun _ => 0))), (q4, .inl (cI, 256, .inl (fun _ => 0))), (q5, .inl (cI, 128, .inl (preT 27)))] H := hP
  have hD : va_D A [(h0, .inr (1, [.int 0, .ref q0, .int 0, .int 0, .ref q1, .ref q2, .ref q3, .ref q4, .int 0, .null, .null, .null, .null])), (q0, .inl (cI, 8, .inl (fun _ => 0))), (q1, .inl (cI, 140, .inl (fun _ => 0))), (q2, .inl (cI, 132, .inl (fun _ => 0))), (q3, .inl (cI, 4, .inl (fun _ => 0))), (q4, .inl (cI, 256, .inl (fun _ => 0))), (q5, .inl (cI, 128, .inl (preT 27)))] := hD
  refine lv_dup hx hb dX1_init_198 rfl ?_
  refine lv_bipush (v := nI 27) hx hb dX1_init_199 (by decide) ?_
  refine lv_bipush (v := nI 8) hx hb dX1_init_201 (by decide) ?_
  refine wk_iast hx hb hK hP hD hS 6 0 rfl rfl (k := 27) (x := nI 8) (by decide) (by decide) dX1_init_203 (fun H locs hP hD hS => ?_)
  simp only [List.set] at hP hD
  rw [preT_s 27 (show TB 27 = nI 8 from by decide +kernel)] at hP hD
  have hP : va_P D vwCl [(h0, .inr (1, [.int 0, .ref q0, .int 0, .int 0, .ref q1, .ref q2, .ref q3, .ref q4, .int 0, .null, .null, .null, .null])), (q0, .inl (cI, 8, .inl (fun _ => 0))), (q1, .inl (cI, 140, .inl (fun _ => 0))), (q2, .inl (cI, 132, .inl (fun _ => 0))), (q3, .inl (cI, 4, .inl (fun _ => 0))), (q4, .inl (cI, 256, .inl (fun _ => 0))), (q5, .inl (cI, 128, .inl (preT 28)))] H := hP
  have hD : va_D A [(h0, .inr (1, [.int 0, .ref q0, .int 0, .int 0, .ref q1, .ref q2, .ref q3, .ref q4, .int 0, .null, .null, .null, .null])), (q0, .inl (cI, 8, .inl (fun _ => 0))), (q1, .inl (cI, 140, .inl (fun _ => 0))), (q2, .inl (cI, 132, .inl (fun _ => 0))), (q3, .inl (cI, 4, .inl (fun _ => 0))), (q4, .inl (cI, 256, .inl (fun _ => 0))), (q5, .inl (cI, 128, .inl (preT 28)))] := hD
  refine lv_dup hx hb dX1_init_204 rfl ?_
  refine lv_bipush (v := nI 28) hx hb dX1_init_205 (by decide) ?_
  refine lv_bipush (v := nI 6) hx hb dX1_init_207 (by decide) ?_
  refine wk_iast hx hb hK hP hD hS 6 0 rfl rfl (k := 28) (x := nI 6) (by decide) (by decide) dX1_init_209 (fun H locs hP hD hS => ?_)
  simp only [List.set] at hP hD
  rw [preT_s 28 (show TB 28 = nI 6 from by decide +kernel)] at hP hD
  have hP : va_P D vwCl [(h0, .inr (1, [.int 0, .ref q0, .int 0, .int 0, .ref q1, .ref q2, .ref q3, .ref q4, .int 0, .null, .null, .null, .null])), (q0, .inl (cI, 8, .inl (fun _ => 0))), (q1, .inl (cI, 140, .inl (fun _ => 0))), (q2, .inl (cI, 132, .inl (fun _ => 0))), (q3, .inl (cI, 4, .inl (fun _ => 0))), (q4, .inl (cI, 256, .inl (fun _ => 0))), (q5, .inl (cI, 128, .inl (preT 29)))] H := hP
  have hD : va_D A [(h0, .inr (1, [.int 0, .ref q0, .int 0, .int 0, .ref q1, .ref q2, .ref q3, .ref q4, .int 0, .null, .null, .null, .null])), (q0, .inl (cI, 8, .inl (fun _ => 0))), (q1, .inl (cI, 140, .inl (fun _ => 0))), (q2, .inl (cI, 132, .inl (fun _ => 0))), (q3, .inl (cI, 4, .inl (fun _ => 0))), (q4, .inl (cI, 256, .inl (fun _ => 0))), (q5, .inl (cI, 128, .inl (preT 29)))] := hD
  refine lv_dup hx hb dX1_init_210 rfl ?_
  refine lv_bipush (v := nI 29) hx hb dX1_init_211 (by decide) ?_
  refine lv_bipush (v := nI 13) hx hb dX1_init_213 (by decide) ?_
  refine wk_iast hx hb hK hP hD hS 6 0 rfl rfl (k := 29) (x := nI 13) (by decide) (by decide) dX1_init_215 (fun H locs hP hD hS => ?_)
  simp only [List.set] at hP hD
  rw [preT_s 29 (show TB 29 = nI 13 from by decide +kernel)] at hP hD
  have hP : va_P D vwCl [(h0, .inr (1, [.int 0, .ref q0, .int 0, .int 0, .ref q1, .ref q2, .ref q3, .ref q4, .int 0, .null, .null, .null, .null])), (q0, .inl (cI, 8, .inl (fun _ => 0))), (q1, .inl (cI, 140, .inl (fun _ => 0))), (q2, .inl (cI, 132, .inl (fun _ => 0))), (q3, .inl (cI, 4, .inl (fun _ => 0))), (q4, .inl (cI, 256, .inl (fun _ => 0))), (q5, .inl (cI, 128, .inl (preT 30)))] H := hP
  have hD : va_D A [(h0, .inr (1, [.int 0, .ref q0, .int 0, .int 0, .ref q1, .ref q2, .ref q3, .ref q4, .int 0, .null, .null, .null, .null])), (q0, .inl (cI, 8, .inl (fun _ => 0))), (q1, .inl (cI, 140, .inl (fun _ => 0))), (q2, .inl (cI, 132, .inl (fun _ => 0))), (q3, .inl (cI, 4, .inl (fun _ => 0))), (q4, .inl (cI, 256, .inl (fun _ => 0))), (q5, .inl (cI, 128, .inl (preT 30)))] := hD
  refine lv_dup hx hb dX1_init_216 rfl ?_
  refine lv_bipush (v := nI 30) hx hb dX1_init_217 (by decide) ?_
  refine lv_iconst (v := nI 3) hx hb dX1_init_219 (by decide) ?_
  refine wk_iast hx hb hK hP hD hS 6 0 rfl rfl (k := 30) (x := nI 3) (by decide) (by decide) dX1_init_220 (fun H locs hP hD hS => ?_)
  simp only [List.set] at hP hD
  rw [preT_s 30 (show TB 30 = nI 3 from by decide +kernel)] at hP hD
  have hP : va_P D vwCl [(h0, .inr (1, [.int 0, .ref q0, .int 0, .int 0, .ref q1, .ref q2, .ref q3, .ref q4, .int 0, .null, .null, .null, .null])), (q0, .inl (cI, 8, .inl (fun _ => 0))), (q1, .inl (cI, 140, .inl (fun _ => 0))), (q2, .inl (cI, 132, .inl (fun _ => 0))), (q3, .inl (cI, 4, .inl (fun _ => 0))), (q4, .inl (cI, 256, .inl (fun _ => 0))), (q5, .inl (cI, 128, .inl (preT 31)))] H := hP
  have hD : va_D A [(h0, .inr (1, [.int 0, .ref q0, .int 0, .int 0, .ref q1, .ref q2, .ref q3, .ref q4, .int 0, .null, .null, .null, .null])), (q0, .inl (cI, 8, .inl (fun _ => 0))), (q1, .inl (cI, 140, .inl (fun _ => 0))), (q2, .inl (cI, 132, .inl (fun _ => 0))), (q3, .inl (cI, 4, .inl (fun _ => 0))), (q4, .inl (cI, 256, .inl (fun _ => 0))), (q5, .inl (cI, 128, .inl (preT 31)))] := hD
  refine lv_dup hx hb dX1_init_221 rfl ?_
  refine lv_bipush (v := nI 31) hx hb dX1_init_222 (by decide) ?_
  refine lv_iconst (v := nI 4) hx hb dX1_init_224 (by decide) ?_
  refine wk_iast hx hb hK hP hD hS 6 0 rfl rfl (k := 31) (x := nI 4) (by decide) (by decide) dX1_init_225 (fun H locs hP hD hS => ?_)
  simp only [List.set] at hP hD
  rw [preT_s 31 (show TB 31 = nI 4 from by decide +kernel)] at hP hD
  have hP : va_P D vwCl [(h0, .inr (1, [.int 0, .ref q0, .int 0, .int 0, .ref q1, .ref q2, .ref q3, .ref q4, .int 0, .null, .null, .null, .null])), (q0, .inl (cI, 8, .inl (fun _ => 0))), (q1, .inl (cI, 140, .inl (fun _ => 0))), (q2, .inl (cI, 132, .inl (fun _ => 0))), (q3, .inl (cI, 4, .inl (fun _ => 0))), (q4, .inl (cI, 256, .inl (fun _ => 0))), (q5, .inl (cI, 128, .inl (preT 32)))] H := hP
  have hD : va_D A [(h0, .inr (1, [.int 0, .ref q0, .int 0, .int 0, .ref q1, .ref q2, .ref q3, .ref q4, .int 0, .null, .null, .null, .null])), (q0, .inl (cI, 8, .inl (fun _ => 0))), (q1, .inl (cI, 140, .inl (fun _ => 0))), (q2, .inl (cI, 132, .inl (fun _ => 0))), (q3, .inl (cI, 4, .inl (fun _ => 0))), (q4, .inl (cI, 256, .inl (fun _ => 0))), (q5, .inl (cI, 128, .inl (preT 32)))] := hD
  refine lv_dup hx hb dX1_init_226 rfl ?_
  refine lv_bipush (v := nI 32) hx hb dX1_init_227 (by decide) ?_
  refine lv_bipush (v := nI 8) hx hb dX1_init_229 (by decide) ?_
  refine wk_iast hx hb hK hP hD hS 6 0 rfl rfl (k := 32) (x := nI 8) (by decide) (by decide) dX1_init_231 (fun H locs hP hD hS => ?_)
  simp only [List.set] at hP hD
  rw [preT_s 32 (show TB 32 = nI 8 from by decide +kernel)] at hP hD
  have hP : va_P D vwCl [(h0, .inr (1, [.int 0, .ref q0, .int 0, .int 0, .ref q1, .ref q2, .ref q3, .ref q4, .int 0, .null, .null, .null, .null])), (q0, .inl (cI, 8, .inl (fun _ => 0))), (q1, .inl (cI, 140, .inl (fun _ => 0))), (q2, .inl (cI, 132, .inl (fun _ => 0))), (q3, .inl (cI, 4, .inl (fun _ => 0))), (q4, .inl (cI, 256, .inl (fun _ => 0))), (q5, .inl (cI, 128, .inl (preT 33)))] H := hP
  have hD : va_D A [(h0, .inr (1, [.int 0, .ref q0, .int 0, .int 0, .ref q1, .ref q2, .ref q3, .ref q4, .int 0, .null, .null, .null, .null])), (q0, .inl (cI, 8, .inl (fun _ => 0))), (q1, .inl (cI, 140, .inl (fun _ => 0))), (q2, .inl (cI, 132, .inl (fun _ => 0))), (q3, .inl (cI, 4, .inl (fun _ => 0))), (q4, .inl (cI, 256, .inl (fun _ => 0))), (q5, .inl (cI, 128, .inl (preT 33)))] := hD
  refine lv_dup hx hb dX1_init_232 rfl ?_
  refine lv_bipush (v := nI 33) hx hb dX1_init_233 (by decide) ?_
  refine lv_bipush (v := nI 6) hx hb dX1_init_235 (by decide) ?_
  refine wk_iast hx hb hK hP hD hS 6 0 rfl rfl (k := 33) (x := nI 6) (by decide) (by decide) dX1_init_237 (fun H locs hP hD hS => ?_)
  simp only [List.set] at hP hD
  rw [preT_s 33 (show TB 33 = nI 6 from by decide +kernel)] at hP hD
  have hP : va_P D vwCl [(h0, .inr (1, [.int 0, .ref q0, .int 0, .int 0, .ref q1, .ref q2, .ref q3, .ref q4, .int 0, .null, .null, .null, .null])), (q0, .inl (cI, 8, .inl (fun _ => 0))), (q1, .inl (cI, 140, .inl (fun _ => 0))), (q2, .inl (cI, 132, .inl (fun _ => 0))), (q3, .inl (cI, 4, .inl (fun _ => 0))), (q4, .inl (cI, 256, .inl (fun _ => 0))), (q5, .inl (cI, 128, .inl (preT 34)))] H := hP
  have hD : va_D A [(h0, .inr (1, [.int 0, .ref q0, .int 0, .int 0, .ref q1, .ref q2, .ref q3, .ref q4, .int 0, .null, .null, .null, .null])), (q0, .inl (cI, 8, .inl (fun _ => 0))), (q1, .inl (cI, 140, .inl (fun _ => 0))), (q2, .inl (cI, 132, .inl (fun _ => 0))), (q3, .inl (cI, 4, .inl (fun _ => 0))), (q4, .inl (cI, 256, .inl (fun _ => 0))), (q5, .inl (cI, 128, .inl (preT 34)))] := hD
  refine lv_dup hx hb dX1_init_238 rfl ?_
  refine lv_bipush (v := nI 34) hx hb dX1_init_239 (by decide) ?_
  refine lv_bipush (v := nI 7) hx hb dX1_init_241 (by decide) ?_
  refine wk_iast hx hb hK hP hD hS 6 0 rfl rfl (k := 34) (x := nI 7) (by decide) (by decide) dX1_init_243 (fun H locs hP hD hS => ?_)
  simp only [List.set] at hP hD
  rw [preT_s 34 (show TB 34 = nI 7 from by decide +kernel)] at hP hD
  have hP : va_P D vwCl [(h0, .inr (1, [.int 0, .ref q0, .int 0, .int 0, .ref q1, .ref q2, .ref q3, .ref q4, .int 0, .null, .null, .null, .null])), (q0, .inl (cI, 8, .inl (fun _ => 0))), (q1, .inl (cI, 140, .inl (fun _ => 0))), (q2, .inl (cI, 132, .inl (fun _ => 0))), (q3, .inl (cI, 4, .inl (fun _ => 0))), (q4, .inl (cI, 256, .inl (fun _ => 0))), (q5, .inl (cI, 128, .inl (preT 35)))] H := hP
  have hD : va_D A [(h0, .inr (1, [.int 0, .ref q0, .int 0, .int 0, .ref q1, .ref q2, .ref q3, .ref q4, .int 0, .null, .null, .null, .null])), (q0, .inl (cI, 8, .inl (fun _ => 0))), (q1, .inl (cI, 140, .inl (fun _ => 0))), (q2, .inl (cI, 132, .inl (fun _ => 0))), (q3, .inl (cI, 4, .inl (fun _ => 0))), (q4, .inl (cI, 256, .inl (fun _ => 0))), (q5, .inl (cI, 128, .inl (preT 35)))] := hD
  refine lv_dup hx hb dX1_init_244 rfl ?_
  refine lv_bipush (v := nI 35) hx hb dX1_init_245 (by decide) ?_
  refine lv_bipush (v := nI 9) hx hb dX1_init_247 (by decide) ?_
  refine wk_iast hx hb hK hP hD hS 6 0 rfl rfl (k := 35) (x := nI 9) (by decide) (by decide) dX1_init_249 (fun H locs hP hD hS => ?_)
  simp only [List.set] at hP hD
  rw [preT_s 35 (show TB 35 = nI 9 from by decide +kernel)] at hP hD
  have hP : va_P D vwCl [(h0, .inr (1, [.int 0, .ref q0, .int 0, .int 0, .ref q1, .ref q2, .ref q3, .ref q4, .int 0, .null, .null, .null, .null])), (q0, .inl (cI, 8, .inl (fun _ => 0))), (q1, .inl (cI, 140, .inl (fun _ => 0))), (q2, .inl (cI, 132, .inl (fun _ => 0))), (q3, .inl (cI, 4, .inl (fun _ => 0))), (q4, .inl (cI, 256, .inl (fun _ => 0))), (q5, .inl (cI, 128, .inl (preT 36)))] H := hP
  have hD : va_D A [(h0, .inr (1, [.int 0, .ref q0, .int 0, .int 0, .ref q1, .ref q2, .ref q3, .ref q4, .int 0, .null, .null, .null, .null])), (q0, .inl (cI, 8, .inl (fun _ => 0))), (q1, .inl (cI, 140, .inl (fun _ => 0))), (q2, .inl (cI, 132, .inl (fun _ => 0))), (q3, .inl (cI, 4, .inl (fun _ => 0))), (q4, .inl (cI, 256, .inl (fun _ => 0))), (q5, .inl (cI, 128, .inl (preT 36)))] := hD
  refine lv_dup hx hb dX1_init_250 rfl ?_
  refine lv_bipush (v := nI 36) hx hb dX1_init_251 (by decide) ?_
  refine lv_iconst (v := nI 3) hx hb dX1_init_253 (by decide) ?_
  refine wk_iast hx hb hK hP hD hS 6 0 rfl rfl (k := 36) (x := nI 3) (by decide) (by decide) dX1_init_254 (fun H locs hP hD hS => ?_)
  simp only [List.set] at hP hD
  rw [preT_s 36 (show TB 36 = nI 3 from by decide +kernel)] at hP hD
  have hP : va_P D vwCl [(h0, .inr (1, [.int 0, .ref q0, .int 0, .int 0, .ref q1, .ref q2, .ref q3, .ref q4, .int 0, .null, .null, .null, .null])), (q0, .inl (cI, 8, .inl (fun _ => 0))), (q1, .inl (cI, 140, .inl (fun _ => 0))), (q2, .inl (cI, 132, .inl (fun _ => 0))), (q3, .inl (cI, 4, .inl (fun _ => 0))), (q4, .inl (cI, 256, .inl (fun _ => 0))), (q5, .inl (cI, 128, .inl (preT 37)))] H := hP
  have hD : va_D A [(h0, .inr (1, [.int 0, .ref q0, .int 0, .int 0, .ref q1, .ref q2, .ref q3, .ref q4, .int 0, .null, .null, .null, .null])), (q0, .inl (cI, 8, .inl (fun _ => 0))), (q1, .inl (cI, 140, .inl (fun _ => 0))), (q2, .inl (cI, 132, .inl (fun _ => 0))), (q3, .inl (cI, 4, .inl (fun _ => 0))), (q4, .inl (cI, 256, .inl (fun _ => 0))), (q5, .inl (cI, 128, .inl (preT 37)))] := hD
  refine lv_dup hx hb dX1_init_255 rfl ?_
  refine lv_bipush (v := nI 37) hx hb dX1_init_256 (by decide) ?_
  refine lv_bipush (v := nI 12) hx hb dX1_init_258 (by decide) ?_
  refine wk_iast hx hb hK hP hD hS 6 0 rfl rfl (k := 37) (x := nI 12) (by decide) (by decide) dX1_init_260 (fun H locs hP hD hS => ?_)
  simp only [List.set] at hP hD
  rw [preT_s 37 (show TB 37 = nI 12 from by decide +kernel)] at hP hD
  have hP : va_P D vwCl [(h0, .inr (1, [.int 0, .ref q0, .int 0, .int 0, .ref q1, .ref q2, .ref q3, .ref q4, .int 0, .null, .null, .null, .null])), (q0, .inl (cI, 8, .inl (fun _ => 0))), (q1, .inl (cI, 140, .inl (fun _ => 0))), (q2, .inl (cI, 132, .inl (fun _ => 0))), (q3, .inl (cI, 4, .inl (fun _ => 0))), (q4, .inl (cI, 256, .inl (fun _ => 0))), (q5, .inl (cI, 128, .inl (preT 38)))] H := hP
  have hD : va_D A [(h0, .inr (1, [.int 0, .ref q0, .int 0, .int 0, .ref q1, .ref q2, .ref q3, .ref q4, .int 0, .null, .null, .null, .null])), (q0, .inl (cI, 8, .inl (fun _ => 0))), (q1, .inl (cI, 140, .inl (fun _ => 0))), (q2, .inl (cI, 132, .inl (fun _ => 0))), (q3, .inl (cI, 4, .inl (fun _ => 0))), (q4, .inl (cI, 256, .inl (fun _ => 0))), (q5, .inl (cI, 128, .inl (preT 38)))] := hD
  refine lv_dup hx hb dX1_init_261 rfl ?_
  refine lv_bipush (v := nI 38) hx hb dX1_init_262 (by decide) ?_
  refine lv_bipush (v := nI 10) hx hb dX1_init_264 (by decide) ?_
  refine wk_iast hx hb hK hP hD hS 6 0 rfl rfl (k := 38) (x := nI 10) (by decide) (by decide) dX1_init_266 (fun H locs hP hD hS => ?_)
  simp only [List.set] at hP hD
  rw [preT_s 38 (show TB 38 = nI 10 from by decide +kernel)] at hP hD
  have hP : va_P D vwCl [(h0, .inr (1, [.int 0, .ref q0, .int 0, .int 0, .ref q1, .ref q2, .ref q3, .ref q4, .int 0, .null, .null, .null, .null])), (q0, .inl (cI, 8, .inl (fun _ => 0))), (q1, .inl (cI, 140, .inl (fun _ => 0))), (q2, .inl (cI, 132, .inl (fun _ => 0))), (q3, .inl (cI, 4, .inl (fun _ => 0))), (q4, .inl (cI, 256, .inl (fun _ => 0))), (q5, .inl (cI, 128, .inl (preT 39)))] H := hP
  have hD : va_D A [(h0, .inr (1, [.int 0, .ref q0, .int 0, .int 0, .ref q1, .ref q2, .ref q3, .ref q4, .int 0, .null, .null, .null, .null])), (q0, .inl (cI, 8, .inl (fun _ => 0))), (q1, .inl (cI, 140, .inl (fun _ => 0))), (q2, .inl (cI, 132, .inl (fun _ => 0))), (q3, .inl (cI, 4, .inl (fun _ => 0))), (q4, .inl (cI, 256, .inl (fun _ => 0))), (q5, .inl (cI, 128, .inl (preT 39)))] := hD
  refine lv_dup hx hb dX1_init_267 rfl ?_
  refine lv_bipush (v := nI 39) hx hb dX1_init_268 (by decide) ?_
  refine lv_bipush (v := nI 15) hx hb dX1_init_270 (by decide) ?_
  refine wk_iast hx hb hK hP hD hS 6 0 rfl rfl (k := 39) (x := nI 15) (by decide) (by decide) dX1_init_272 (fun H locs hP hD hS => ?_)
  simp only [List.set] at hP hD
  rw [preT_s 39 (show TB 39 = nI 15 from by decide +kernel)] at hP hD
  have hP : va_P D vwCl [(h0, .inr (1, [.int 0, .ref q0, .int 0, .int 0, .ref q1, .ref q2, .ref q3, .ref q4, .int 0, .null, .null, .null, .null])), (q0, .inl (cI, 8, .inl (fun _ => 0))), (q1, .inl (cI, 140, .inl (fun _ => 0))), (q2, .inl (cI, 132, .inl (fun _ => 0))), (q3, .inl (cI, 4, .inl (fun _ => 0))), (q4, .inl (cI, 256, .inl (fun _ => 0))), (q5, .inl (cI, 128, .inl (preT 40)))] H := hP
  have hD : va_D A [(h0, .inr (1, [.int 0, .ref q0, .int 0, .int 0, .ref q1, .ref q2, .ref q3, .ref q4, .int 0, .null, .null, .null, .null])), (q0, .inl (cI, 8, .inl (fun _ => 0))), (q1, .inl (cI, 140, .inl (fun _ => 0))), (q2, .inl (cI, 132, .inl (fun _ => 0))), (q3, .inl (cI, 4, .inl (fun _ => 0))), (q4, .inl (cI, 256, .inl (fun _ => 0))), (q5, .inl (cI, 128, .inl (preT 40)))] := hD
  refine lv_dup hx hb dX1_init_273 rfl ?_
  refine lv_bipush (v := nI 40) hx hb dX1_init_274 (by decide) ?_
  refine lv_bipush (v := nI 13) hx hb dX1_init_276 (by decide) ?_
  refine wk_iast hx hb hK hP hD hS 6 0 rfl rfl (k := 40) (x := nI 13) (by decide) (by decide) dX1_init_278 (fun H locs hP hD hS => ?_)
  simp only [List.set] at hP hD
  rw [preT_s 40 (show TB 40 = nI 13 from by decide +kernel)] at hP hD
  have hP : va_P D vwCl [(h0, .inr (1, [.int 0, .ref q0, .int 0, .int 0, .ref q1, .ref q2, .ref q3, .ref q4, .int 0, .null, .null, .null, .null])), (q0, .inl (cI, 8, .inl (fun _ => 0))), (q1, .inl (cI, 140, .inl (fun _ => 0))), (q2, .inl (cI, 132, .inl (fun _ => 0))), (q3, .inl (cI, 4, .inl (fun _ => 0))), (q4, .inl (cI, 256, .inl (fun _ => 0))), (q5, .inl (cI, 128, .inl (preT 41)))] H := hP
  have hD : va_D A [(h0, .inr (1, [.int 0, .ref q0, .int 0, .int 0, .ref q1, .ref q2, .ref q3, .ref q4, .int 0, .null, .null, .null, .null])), (q0, .inl (cI, 8, .inl (fun _ => 0))), (q1, .inl (cI, 140, .inl (fun _ => 0))), (q2, .inl (cI, 132, .inl (fun _ => 0))), (q3, .inl (cI, 4, .inl (fun _ => 0))), (q4, .inl (cI, 256, .inl (fun _ => 0))), (q5, .inl (cI, 128, .inl (preT 41)))] := hD
  refine lv_dup hx hb dX1_init_279 rfl ?_
  refine lv_bipush (v := nI 41) hx hb dX1_init_280 (by decide) ?_
  refine lv_iconst (v := nI 1) hx hb dX1_init_282 (by decide) ?_
  refine wk_iast hx hb hK hP hD hS 6 0 rfl rfl (k := 41) (x := nI 1) (by decide) (by decide) dX1_init_283 (fun H locs hP hD hS => ?_)
  simp only [List.set] at hP hD
  rw [preT_s 41 (show TB 41 = nI 1 from by decide +kernel)] at hP hD
  have hP : va_P D vwCl [(h0, .inr (1, [.int 0, .ref q0, .int 0, .int 0, .ref q1, .ref q2, .ref q3, .ref q4, .int 0, .null, .null, .null, .null])), (q0, .inl (cI, 8, .inl (fun _ => 0))), (q1, .inl (cI, 140, .inl (fun _ => 0))), (q2, .inl (cI, 132, .inl (fun _ => 0))), (q3, .inl (cI, 4, .inl (fun _ => 0))), (q4, .inl (cI, 256, .inl (fun _ => 0))), (q5, .inl (cI, 128, .inl (preT 42)))] H := hP
  have hD : va_D A [(h0, .inr (1, [.int 0, .ref q0, .int 0, .int 0, .ref q1, .ref q2, .ref q3, .ref q4, .int 0, .null, .null, .null, .null])), (q0, .inl (cI, 8, .inl (fun _ => 0))), (q1, .inl (cI, 140, .inl (fun _ => 0))), (q2, .inl (cI, 132, .inl (fun _ => 0))), (q3, .inl (cI, 4, .inl (fun _ => 0))), (q4, .inl (cI, 256, .inl (fun _ => 0))), (q5, .inl (cI, 128, .inl (preT 42)))] := hD
  refine lv_dup hx hb dX1_init_284 rfl ?_
  refine lv_bipush (v := nI 42) hx hb dX1_init_285 (by decide) ?_
  refine lv_bipush (v := nI 14) hx hb dX1_init_287 (by decide) ?_
  refine wk_iast hx hb hK hP hD hS 6 0 rfl rfl (k := 42) (x := nI 14) (by decide) (by decide) dX1_init_289 (fun H locs hP hD hS => ?_)
  simp only [List.set] at hP hD
  rw [preT_s 42 (show TB 42 = nI 14 from by decide +kernel)] at hP hD
  have hP : va_P D vwCl [(h0, .inr (1, [.int 0, .ref q0, .int 0, .int 0, .ref q1, .ref q2, .ref q3, .ref q4, .int 0, .null, .null, .null, .null])), (q0, .inl (cI, 8, .inl (fun _ => 0))), (q1, .inl (cI, 140, .inl (fun _ => 0))), (q2, .inl (cI, 132, .inl (fun _ => 0))), (q3, .inl (cI, 4, .inl (fun _ => 0))), (q4, .inl (cI, 256, .inl (fun _ => 0))), (q5, .inl (cI, 128, .inl (preT 43)))] H := hP
  have hD : va_D A [(h0, .inr (1, [.int 0, .ref q0, .int 0, .int 0, .ref q1, .ref q2, .ref q3, .ref q4, .int 0, .null, .null, .null, .null])), (q0, .inl (cI, 8, .inl (fun _ => 0))), (q1, .inl (cI, 140, .inl (fun _ => 0))), (q2, .inl (cI, 132, .inl (fun _ => 0))), (q3, .inl (cI, 4, .inl (fun _ => 0))), (q4, .inl (cI, 256, .inl (fun _ => 0))), (q5, .inl (cI, 128, .inl (preT 43)))] := hD
  refine lv_dup hx hb dX1_init_290 rfl ?_
  refine lv_bipush (v := nI 43) hx hb dX1_init_291 (by decide) ?_
  refine lv_iconst (v := nI 4) hx hb dX1_init_293 (by decide) ?_
  refine wk_iast hx hb hK hP hD hS 6 0 rfl rfl (k := 43) (x := nI 4) (by decide) (by decide) dX1_init_294 (fun H locs hP hD hS => ?_)
  simp only [List.set] at hP hD
  rw [preT_s 43 (show TB 43 = nI 4 from by decide +kernel)] at hP hD
  have hP : va_P D vwCl [(h0, .inr (1, [.int 0, .ref q0, .int 0, .int 0, .ref q1, .ref q2, .ref q3, .ref q4, .int 0, .null, .null, .null, .null])), (q0, .inl (cI, 8, .inl (fun _ => 0))), (q1, .inl (cI, 140, .inl (fun _ => 0))), (q2, .inl (cI, 132, .inl (fun _ => 0))), (q3, .inl (cI, 4, .inl (fun _ => 0))), (q4, .inl (cI, 256, .inl (fun _ => 0))), (q5, .inl (cI, 128, .inl (preT 44)))] H := hP
  have hD : va_D A [(h0, .inr (1, [.int 0, .ref q0, .int 0, .int 0, .ref q1, .ref q2, .ref q3, .ref q4, .int 0, .null, .null, .null, .null])), (q0, .inl (cI, 8, .inl (fun _ => 0))), (q1, .inl (cI, 140, .inl (fun _ => 0))), (q2, .inl (cI, 132, .inl (fun _ => 0))), (q3, .inl (cI, 4, .inl (fun _ => 0))), (q4, .inl (cI, 256, .inl (fun _ => 0))), (q5, .inl (cI, 128, .inl (preT 44)))] := hD
  refine lv_dup hx hb dX1_init_295 rfl ?_
  refine lv_bipush (v := nI 44) hx hb dX1_init_296 (by decide) ?_
  refine lv_iconst (v := nI 0) hx hb dX1_init_298 (by decide) ?_
  refine wk_iast hx hb hK hP hD hS 6 0 rfl rfl (k := 44) (x := nI 0) (by decide) (by decide) dX1_init_299 (fun H locs hP hD hS => ?_)
  simp only [List.set] at hP hD
  rw [preT_s 44 (show TB 44 = nI 0 from by decide +kernel)] at hP hD
  have hP : va_P D vwCl [(h0, .inr (1, [.int 0, .ref q0, .int 0, .int 0, .ref q1, .ref q2, .ref q3, .ref q4, .int 0, .null, .null, .null, .null])), (q0, .inl (cI, 8, .inl (fun _ => 0))), (q1, .inl (cI, 140, .inl (fun _ => 0))), (q2, .inl (cI, 132, .inl (fun _ => 0))), (q3, .inl (cI, 4, .inl (fun _ => 0))), (q4, .inl (cI, 256, .inl (fun _ => 0))), (q5, .inl (cI, 128, .inl (preT 45)))] H := hP
  have hD : va_D A [(h0, .inr (1, [.int 0, .ref q0, .int 0, .int 0, .ref q1, .ref q2, .ref q3, .ref q4, .int 0, .null, .null, .null, .null])), (q0, .inl (cI, 8, .inl (fun _ => 0))), (q1, .inl (cI, 140, .inl (fun _ => 0))), (q2, .inl (cI, 132, .inl (fun _ => 0))), (q3, .inl (cI, 4, .inl (fun _ => 0))), (q4, .inl (cI, 256, .inl (fun _ => 0))), (q5, .inl (cI, 128, .inl (preT 45)))] := hD
  refine lv_dup hx hb dX1_init_300 rfl ?_
  refine lv_bipush (v := nI 45) hx hb dX1_init_301 (by decide) ?_
  refine lv_bipush (v := nI 11) hx hb dX1_init_303 (by decide) ?_
  refine wk_iast hx hb hK hP hD hS 6 0 rfl rfl (k := 45) (x := nI 11) (by decide) (by decide) dX1_init_305 (fun H locs hP hD hS => ?_)
  simp only [List.set] at hP hD
  rw [preT_s 45 (show TB 45 = nI 11 from by decide +kernel)] at hP hD
  have hP : va_P D vwCl [(h0, .inr (1, [.int 0, .ref q0, .int 0, .int 0, .ref q1, .ref q2, .ref q3, .ref q4, .int 0, .null, .null, .null, .null])), (q0, .inl (cI, 8, .inl (fun _ => 0))), (q1, .inl (cI, 140, .inl (fun _ => 0))), (q2, .inl (cI, 132, .inl (fun _ => 0))), (q3, .inl (cI, 4, .inl (fun _ => 0))), (q4, .inl (cI, 256, .inl (fun _ => 0))), (q5, .inl (cI, 128, .inl (preT 46)))] H := hP
  have hD : va_D A [(h0, .inr (1, [.int 0, .ref q0, .int 0, .int 0, .ref q1, .ref q2, .ref q3, .ref q4, .int 0, .null, .null, .null, .null])), (q0, .inl (cI, 8, .inl (fun _ => 0))), (q1, .inl (cI, 140, .inl (fun _ => 0))), (q2, .inl (cI, 132, .inl (fun _ => 0))), (q3, .inl (cI, 4, .inl (fun _ => 0))), (q4, .inl (cI, 256, .inl (fun _ => 0))), (q5, .inl (cI, 128, .inl (preT 46)))] := hD
  refine lv_dup hx hb dX1_init_306 rfl ?_
  refine lv_bipush (v := nI 46) hx hb dX1_init_307 (by decide) ?_
  refine lv_iconst (v := nI 5) hx hb dX1_init_309 (by decide) ?_
  refine wk_iast hx hb hK hP hD hS 6 0 rfl rfl (k := 46) (x := nI 5) (by decide) (by decide) dX1_init_310 (fun H locs hP hD hS => ?_)
  simp only [List.set] at hP hD
  rw [preT_s 46 (show TB 46 = nI 5 from by decide +kernel)] at hP hD
  have hP : va_P D vwCl [(h0, .inr (1, [.int 0, .ref q0, .int 0, .int 0, .ref q1, .ref q2, .ref q3, .ref q4, .int 0, .null, .null, .null, .null])), (q0, .inl (cI, 8, .inl (fun _ => 0))), (q1, .inl (cI, 140, .inl (fun _ => 0))), (q2, .inl (cI, 132, .inl (fun _ => 0))), (q3, .inl (cI, 4, .inl (fun _ => 0))), (q4, .inl (cI, 256, .inl (fun _ => 0))), (q5, .inl (cI, 128, .inl (preT 47)))] H := hP
  have hD : va_D A [(h0, .inr (1, [.int 0, .ref q0, .int 0, .int 0, .ref q1, .ref q2, .ref q3, .ref q4, .int 0, .null, .null, .null, .null])), (q0, .inl (cI, 8, .inl (fun _ => 0))), (q1, .inl (cI, 140, .inl (fun _ => 0))), (q2, .inl (cI, 132, .inl (fun _ => 0))), (q3, .inl (cI, 4, .inl (fun _ => 0))), (q4, .inl (cI, 256, .inl (fun _ => 0))), (q5, .inl (cI, 128, .inl (preT 47)))] := hD
  refine lv_dup hx hb dX1_init_311 rfl ?_
  refine lv_bipush (v := nI 47) hx hb dX1_init_312 (by decide) ?_
  refine lv_iconst (v := nI 2) hx hb dX1_init_314 (by decide) ?_
  refine wk_iast hx hb hK hP hD hS 6 0 rfl rfl (k := 47) (x := nI 2) (by decide) (by decide) dX1_init_315 (fun H locs hP hD hS => ?_)
  simp only [List.set] at hP hD
  rw [preT_s 47 (show TB 47 = nI 2 from by decide +kernel)] at hP hD
  have hP : va_P D vwCl [(h0, .inr (1, [.int 0, .ref q0, .int 0, .int 0, .ref q1, .ref q2, .ref q3, .ref q4, .int 0, .null, .null, .null, .null])), (q0, .inl (cI, 8, .inl (fun _ => 0))), (q1, .inl (cI, 140, .inl (fun _ => 0))), (q2, .inl (cI, 132, .inl (fun _ => 0))), (q3, .inl (cI, 4, .inl (fun _ => 0))), (q4, .inl (cI, 256, .inl (fun _ => 0))), (q5, .inl (cI, 128, .inl (preT 48)))] H := hP
  have hD : va_D A [(h0, .inr (1, [.int 0, .ref q0, .int 0, .int 0, .ref q1, .ref q2, .ref q3, .ref q4, .int 0, .null, .null, .null, .null])), (q0, .inl (cI, 8, .inl (fun _ => 0))), (q1, .inl (cI, 140, .inl (fun _ => 0))), (q2, .inl (cI, 132, .inl (fun _ => 0))), (q3, .inl (cI, 4, .inl (fun _ => 0))), (q4, .inl (cI, 256, .inl (fun _ => 0))), (q5, .inl (cI, 128, .inl (preT 48)))] := hD
  refine lv_dup hx hb dX1_init_316 rfl ?_
  refine lv_bipush (v := nI 48) hx hb dX1_init_317 (by decide) ?_
  refine lv_iconst (v := nI 0) hx hb dX1_init_319 (by decide) ?_
  refine wk_iast hx hb hK hP hD hS 6 0 rfl rfl (k := 48) (x := nI 0) (by decide) (by decide) dX1_init_320 (fun H locs hP hD hS => ?_)
  simp only [List.set] at hP hD
  rw [preT_s 48 (show TB 48 = nI 0 from by decide +kernel)] at hP hD
  have hP : va_P D vwCl [(h0, .inr (1, [.int 0, .ref q0, .int 0, .int 0, .ref q1, .ref q2, .ref q3, .ref q4, .int 0, .null, .null, .null, .null])), (q0, .inl (cI, 8, .inl (fun _ => 0))), (q1, .inl (cI, 140, .inl (fun _ => 0))), (q2, .inl (cI, 132, .inl (fun _ => 0))), (q3, .inl (cI, 4, .inl (fun _ => 0))), (q4, .inl (cI, 256, .inl (fun _ => 0))), (q5, .inl (cI, 128, .inl (preT 49)))] H := hP
  have hD : va_D A [(h0, .inr (1, [.int 0, .ref q0, .int 0, .int 0, .ref q1, .ref q2, .ref q3, .ref q4, .int 0, .null, .null, .null, .null])), (q0, .inl (cI, 8, .inl (fun _ => 0))), (q1, .inl (cI, 140, .inl (fun _ => 0))), (q2, .inl (cI, 132, .inl (fun _ => 0))), (q3, .inl (cI, 4, .inl (fun _ => 0))), (q4, .inl (cI, 256, .inl (fun _ => 0))), (q5, .inl (cI, 128, .inl (preT 49)))] := hD
  refine lv_dup hx hb dX1_init_321 rfl ?_
  refine lv_bipush (v := nI 49) hx hb dX1_init_322 (by decide) ?_
  refine lv_bipush (v := nI 15) hx hb dX1_init_324 (by decide) ?_
  refine wk_iast hx hb hK hP hD hS 6 0 rfl rfl (k := 49) (x := nI 15) (by decide) (by decide) dX1_init_326 (fun H locs hP hD hS => ?_)
  simp only [List.set] at hP hD
  rw [preT_s 49 (show TB 49 = nI 15 from by decide +kernel)] at hP hD
  have hP : va_P D vwCl [(h0, .inr (1, [.int 0, .ref q0, .int 0, .int 0, .ref q1, .ref q2, .ref q3, .ref q4, .int 0, .null, .null, .null, .null])), (q0, .inl (cI, 8, .inl (fun _ => 0))), (q1, .inl (cI, 140, .inl (fun _ => 0))), (q2, .inl (cI, 132, .inl (fun _ => 0))), (q3, .inl (cI, 4, .inl (fun _ => 0))), (q4, .inl (cI, 256, .inl (fun _ => 0))), (q5, .inl (cI, 128, .inl (preT 50)))] H := hP
  have hD : va_D A [(h0, .inr (1, [.int 0, .ref q0, .int 0, .int 0, .ref q1, .ref q2, .ref q3, .ref q4, .int 0, .null, .null, .null, .null])), (q0, .inl (cI, 8, .inl (fun _ => 0))), (q1, .inl (cI, 140, .inl (fun _ => 0))), (q2, .inl (cI, 132, .inl (fun _ => 0))), (q3, .inl (cI, 4, .inl (fun _ => 0))), (q4, .inl (cI, 256, .inl (fun _ => 0))), (q5, .inl (cI, 128, .inl (preT 50)))] := hD
  refine lv_dup hx hb dX1_init_327 rfl ?_
  refine lv_bipush (v := nI 50) hx hb dX1_init_328 (by decide) ?_
  refine lv_bipush (v := nI 11) hx hb dX1_init_330 (by decide) ?_
  refine wk_iast hx hb hK hP hD hS 6 0 rfl rfl (k := 50) (x := nI 11) (by decide) (by decide) dX1_init_332 (fun H locs hP hD hS => ?_)
  simp only [List.set] at hP hD
  rw [preT_s 50 (show TB 50 = nI 11 from by decide +kernel)] at hP hD
  have hP : va_P D vwCl [(h0, .inr (1, [.int 0, .ref q0, .int 0, .int 0, .ref q1, .ref q2, .ref q3, .ref q4, .int 0, .null, .null, .null, .null])), (q0, .inl (cI, 8, .inl (fun _ => 0))), (q1, .inl (cI, 140, .inl (fun _ => 0))), (q2, .inl (cI, 132, .inl (fun _ => 0))), (q3, .inl (cI, 4, .inl (fun _ => 0))), (q4, .inl (cI, 256, .inl (fun _ => 0))), (q5, .inl (cI, 128, .inl (preT 51)))] H := hP
  have hD : va_D A [(h0, .inr (1, [.int 0, .ref q0, .int 0, .int 0, .ref q1, .ref q2, .ref q3, .ref q4, .int 0, .null, .null, .null, .null])), (q0, .inl (cI, 8, .inl (fun _ => 0))), (q1, .inl (cI, 140, .inl (fun _ => 0))), (q2, .inl (cI, 132, .inl (fun _ => 0))), (q3, .inl (cI, 4, .inl (fun _ => 0))), (q4, .inl (cI, 256, .inl (fun _ => 0))), (q5, .inl (cI, 128, .inl (preT 51)))] := hD
  refine lv_dup hx hb dX1_init_333 rfl ?_
  refine lv_bipush (v := nI 51) hx hb dX1_init_334 (by decide) ?_
  refine lv_bipush (v := nI 8) hx hb dX1_init_336 (by decide) ?_
  refine wk_iast hx hb hK hP hD hS 6 0 rfl rfl (k := 51) (x := nI 8) (by decide) (by decide) dX1_init_338 (fun H locs hP hD hS => ?_)
  simp only [List.set] at hP hD
  rw [preT_s 51 (show TB 51 = nI 8 from by decide +kernel)] at hP hD
  have hP : va_P D vwCl [(h0, .inr (1, [.int 0, .ref q0, .int 0, .int 0, .ref q1, .ref q2, .ref q3, .ref q4, .int 0, .null, .null, .null, .null])), (q0, .inl (cI, 8, .inl (fun _ => 0))), (q1, .inl (cI, 140, .inl (fun _ => 0))), (q2, .inl (cI, 132, .inl (fun _ => 0))), (q3, .inl (cI, 4, .inl (fun _ => 0))), (q4, .inl (cI, 256, .inl (fun _ => 0))), (q5, .inl (cI, 128, .inl (preT 52)))] H := hP
  have hD : va_D A [(h0, .inr (1, [.int 0, .ref q0, .int 0, .int 0, .ref q1, .ref q2, .ref q3, .ref q4, .int 0, .null, .null, .null, .null])), (q0, .inl (cI, 8, .inl (fun _ => 0))), (q1, .inl (cI, 140, .inl (fun _ => 0))), (q2, .inl (cI, 132, .inl (fun _ => 0))), (q3, .inl (cI, 4, .inl (fun _ => 0))), (q4, .inl (cI, 256, .inl (fun _ => 0))), (q5, .inl (cI, 128, .inl (preT 52)))] := hD
  refine lv_dup hx hb dX1_init_339 rfl ?_
  refine lv_bipush (v := nI 52) hx hb dX1_init_340 (by decide) ?_
  refine lv_bipush (v := nI 12) hx hb dX1_init_342 (by decide) ?_
  refine wk_iast hx hb hK hP hD hS 6 0 rfl rfl (k := 52) (x := nI 12) (by decide) (by decide) dX1_init_344 (fun H locs hP hD hS => ?_)
  simp only [List.set] at hP hD
  rw [preT_s 52 (show TB 52 = nI 12 from by decide +kernel)] at hP hD
  have hP : va_P D vwCl [(h0, .inr (1, [.int 0, .ref q0, .int 0, .int 0, .ref q1, .ref q2, .ref q3, .ref q4, .int 0, .null, .null, .null, .null])), (q0, .inl (cI, 8, .inl (fun _ => 0))), (q1, .inl (cI, 140, .inl (fun _ => 0))), (q2, .inl (cI, 132, .inl (fun _ => 0))), (q3, .inl (cI, 4, .inl (fun _ => 0))), (q4, .inl (cI, 256, .inl (fun _ => 0))), (q5, .inl (cI, 128, .inl (preT 53)))] H := hP
  have hD : va_D A [(h0, .inr (1, [.int 0, .ref q0, .int 0, .int 0, .ref q1, .ref q2, .ref q3, .ref q4, .int 0, .null, .null, .null, .null])), (q0, .inl (cI, 8, .inl (fun _ => 0))), (q1, .inl (cI, 140, .inl (fun _ => 0))), (q2, .inl (cI, 132, .inl (fun _ => 0))), (q3, .inl (cI, 4, .inl (fun _ => 0))), (q4, .inl (cI, 256, .inl (fun _ => 0))), (q5, .inl (cI, 128, .inl (preT 53)))] := hD
  refine lv_dup hx hb dX1_init_345 rfl ?_
  refine lv_bipush (v := nI 53) hx hb dX1_init_346 (by decide) ?_
  refine lv_bipush (v := nI 9) hx hb dX1_init_348 (by decide) ?_
  refine wk_iast hx hb hK hP hD hS 6 0 rfl rfl (k := 53) (x := nI 9) (by decide) (by decide) dX1_init_350 (fun H locs hP hD hS => ?_)
  simp only [List.set] at hP hD
  rw [preT_s 53 (show TB 53 = nI 9 from by decide +kernel)] at hP hD
  have hP : va_P D vwCl [(h0, .inr (1, [.int 0, .ref q0, .int 0, .int 0, .ref q1, .ref q2, .ref q3, .ref q4, .int 0, .null, .null, .null, .null])), (q0, .inl (cI, 8, .inl (fun _ => 0))), (q1, .inl (cI, 140, .inl (fun _ => 0))), (q2, .inl (cI, 132, .inl (fun _ => 0))), (q3, .inl (cI, 4, .inl (fun _ => 0))), (q4, .inl (cI, 256, .inl (fun _ => 0))), (q5, .inl (cI, 128, .inl (preT 54)))] H := hP
  have hD : va_D A [(h0, .inr (1, [.int 0, .ref q0, .int 0, .int 0, .ref q1, .ref q2, .ref q3, .ref q4, .int 0, .null, .null, .null, .null])), (q0, .inl (cI, 8, .inl (fun _ => 0))), (q1, .inl (cI, 140, .inl (fun _ => 0))), (q2, .inl (cI, 132, .inl (fun _ => 0))), (q3, .inl (cI, 4, .inl (fun _ => 0))), (q4, .inl (cI, 256, .inl (fun _ => 0))), (q5, .inl (cI, 128, .inl (preT 54)))] := hD
  refine lv_dup hx hb dX1_init_351 rfl ?_
  refine lv_bipush (v := nI 54) hx hb dX1_init_352 (by decide) ?_
  refine lv_bipush (v := nI 6) hx hb dX1_init_354 (by decide) ?_
  refine wk_iast hx hb hK hP hD hS 6 0 rfl rfl (k := 54) (x := nI 6) (by decide) (by decide) dX1_init_356 (fun H locs hP hD hS => ?_)
  simp only [List.set] at hP hD
  rw [preT_s 54 (show TB 54 = nI 6 from by decide +kernel)] at hP hD
  have hP : va_P D vwCl [(h0, .inr (1, [.int 0, .ref q0, .int 0, .int 0, .ref q1, .ref q2, .ref q3, .ref q4, .int 0, .null, .null, .null, .null])), (q0, .inl (cI, 8, .inl (fun _ => 0))), (q1, .inl (cI, 140, .inl (fun _ => 0))), (q2, .inl (cI, 132, .inl (fun _ => 0))), (q3, .inl (cI, 4, .inl (fun _ => 0))), (q4, .inl (cI, 256, .inl (fun _ => 0))), (q5, .inl (cI, 128, .inl (preT 55)))] H := hP
  have hD : va_D A [(h0, .inr (1, [.int 0, .ref q0, .int 0, .int 0, .ref q1, .ref q2, .ref q3, .ref q4, .int 0, .null, .null, .null, .null])), (q0, .inl (cI, 8, .inl (fun _ => 0))), (q1, .inl (cI, 140, .inl (fun _ => 0))), (q2, .inl (cI, 132, .inl (fun _ => 0))), (q3, .inl (cI, 4, .inl (fun _ => 0))), (q4, .inl (cI, 256, .inl (fun _ => 0))), (q5, .inl (cI, 128, .inl (preT 55)))] := hD
  refine lv_dup hx hb dX1_init_357 rfl ?_
  refine lv_bipush (v := nI 55) hx hb dX1_init_358 (by decide) ?_
  refine lv_iconst (v := nI 3) hx hb dX1_init_360 (by decide) ?_
  refine wk_iast hx hb hK hP hD hS 6 0 rfl rfl (k := 55) (x := nI 3) (by decide) (by decide) dX1_init_361 (fun H locs hP hD hS => ?_)
  simp only [List.set] at hP hD
  rw [preT_s 55 (show TB 55 = nI 3 from by decide +kernel)] at hP hD
  have hP : va_P D vwCl [(h0, .inr (1, [.int 0, .ref q0, .int 0, .int 0, .ref q1, .ref q2, .ref q3, .ref q4, .int 0, .null, .null, .null, .null])), (q0, .inl (cI, 8, .inl (fun _ => 0))), (q1, .inl (cI, 140, .inl (fun _ => 0))), (q2, .inl (cI, 132, .inl (fun _ => 0))), (q3, .inl (cI, 4, .inl (fun _ => 0))), (q4, .inl (cI, 256, .inl (fun _ => 0))), (q5, .inl (cI, 128, .inl (preT 56)))] H := hP
  have hD : va_D A [(h0, .inr (1, [.int 0, .ref q0, .int 0, .int 0, .ref q1, .ref q2, .ref q3, .ref q4, .int 0, .null, .null, .null, .null])), (q0, .inl (cI, 8, .inl (fun _ => 0))), (q1, .inl (cI, 140, .inl (fun _ => 0))), (q2, .inl (cI, 132, .inl (fun _ => 0))), (q3, .inl (cI, 4, .inl (fun _ => 0))), (q4, .inl (cI, 256, .inl (fun _ => 0))), (q5, .inl (cI, 128, .inl (preT 56)))] := hD
  refine lv_dup hx hb dX1_init_362 rfl ?_
  refine lv_bipush (v := nI 56) hx hb dX1_init_363 (by decide) ?_
  refine lv_bipush (v := nI 13) hx hb dX1_init_365 (by decide) ?_
  refine wk_iast hx hb hK hP hD hS 6 0 rfl rfl (k := 56) (x := nI 13) (by decide) (by decide) dX1_init_367 (fun H locs hP hD hS => ?_)
  simp only [List.set] at hP hD
  rw [preT_s 56 (show TB 56 = nI 13 from by decide +kernel)] at hP hD
  have hP : va_P D vwCl [(h0, .inr (1, [.int 0, .ref q0, .int 0, .int 0, .ref q1, .ref q2, .ref q3, .ref q4, .int 0, .null, .null, .null, .null])), (q0, .inl (cI, 8, .inl (fun _ => 0))), (q1, .inl (cI, 140, .inl (fun _ => 0))), (q2, .inl (cI, 132, .inl (fun _ => 0))), (q3, .inl (cI, 4, .inl (fun _ => 0))), (q4, .inl (cI, 256, .inl (fun _ => 0))), (q5, .inl (cI, 128, .inl (preT 57)))] H := hP
  have hD : va_D A [(h0, .inr (1, [.int 0, .ref q0, .int 0, .int 0, .ref q1, .ref q2, .ref q3, .ref q4, .int 0, .null, .null, .null, .null])), (q0, .inl (cI, 8, .inl (fun _ => 0))), (q1, .inl (cI, 140, .inl (fun _ => 0))), (q2, .inl (cI, 132, .inl (fun _ => 0))), (q3, .inl (cI, 4, .inl (fun _ => 0))), (q4, .inl (cI, 256, .inl (fun _ => 0))), (q5, .inl (cI, 128, .inl (preT 57)))] := hD
  refine lv_dup hx hb dX1_init_368 rfl ?_
  refine lv_bipush (v := nI 57) hx hb dX1_init_369 (by decide) ?_
  refine lv_iconst (v := nI 1) hx hb dX1_init_371 (by decide) ?_
  refine wk_iast hx hb hK hP hD hS 6 0 rfl rfl (k := 57) (x := nI 1) (by decide) (by decide) dX1_init_372 (fun H locs hP hD hS => ?_)
  simp only [List.set] at hP hD
  rw [preT_s 57 (show TB 57 = nI 1 from by decide +kernel)] at hP hD
  have hP : va_P D vwCl [(h0, .inr (1, [.int 0, .ref q0, .int 0, .int 0, .ref q1, .ref q2, .ref q3, .ref q4, .int 0, .null, .null, .null, .null])), (q0, .inl (cI, 8, .inl (fun _ => 0))), (q1, .inl (cI, 140, .inl (fun _ => 0))), (q2, .inl (cI, 132, .inl (fun _ => 0))), (q3, .inl (cI, 4, .inl (fun _ => 0))), (q4, .inl (cI, 256, .inl (fun _ => 0))), (q5, .inl (cI, 128, .inl (preT 58)))] H := hP
  have hD : va_D A [(h0, .inr (1, [.int 0, .ref q0, .int 0, .int 0, .ref q1, .ref q2, .ref q3, .ref q4, .int 0, .null, .null, .null, .null])), (q0, .inl (cI, 8, .inl (fun _ => 0))), (q1, .inl (cI, 140, .inl (fun _ => 0))), (q2, .inl (cI, 132, .inl (fun _ => 0))), (q3, .inl (cI, 4, .inl (fun _ => 0))), (q4, .inl (cI, 256, .inl (fun _ => 0))), (q5, .inl (cI, 128, .inl (preT 58)))] := hD
  refine lv_dup hx hb dX1_init_373 rfl ?_
  refine lv_bipush (v := nI 58) hx hb dX1_init_374 (by decide) ?_
  refine lv_iconst (v := nI 2) hx hb dX1_init_376 (by decide) ?_
  refine wk_iast hx hb hK hP hD hS 6 0 rfl rfl (k := 58) (x := nI 2) (by decide) (by decide) dX1_init_377 (fun H locs hP hD hS => ?_)
  simp only [List.set] at hP hD
  rw [preT_s 58 (show TB 58 = nI 2 from by decide +kernel)] at hP hD
  have hP : va_P D vwCl [(h0, .inr (1, [.int 0, .ref q0, .int 0, .int 0, .ref q1, .ref q2, .ref q3, .ref q4, .int 0, .null, .null, .null, .null])), (q0, .inl (cI, 8, .inl (fun _ => 0))), (q1, .inl (cI, 140, .inl (fun _ => 0))), (q2, .inl (cI, 132, .inl (fun _ => 0))), (q3, .inl (cI, 4, .inl (fun _ => 0))), (q4, .inl (cI, 256, .inl (fun _ => 0))), (q5, .inl (cI, 128, .inl (preT 59)))] H := hP
  have hD : va_D A [(h0, .inr (1, [.int 0, .ref q0, .int 0, .int 0, .ref q1, .ref q2, .ref q3, .ref q4, .int 0, .null, .null, .null, .null])), (q0, .inl (cI, 8, .inl (fun _ => 0))), (q1, .inl (cI, 140, .inl (fun _ => 0))), (q2, .inl (cI, 132, .inl (fun _ => 0))), (q3, .inl (cI, 4, .inl (fun _ => 0))), (q4, .inl (cI, 256, .inl (fun _ => 0))), (q5, .inl (cI, 128, .inl (preT 59)))] := hD
  refine lv_dup hx hb dX1_init_378 rfl ?_
  refine lv_bipush (v := nI 59) hx hb dX1_init_379 (by decide) ?_
  refine lv_iconst (v := nI 4) hx hb dX1_init_381 (by decide) ?_
  refine wk_iast hx hb hK hP hD hS 6 0 rfl rfl (k := 59) (x := nI 4) (by decide) (by decide) dX1_init_382 (fun H locs hP hD hS => ?_)
  simp only [List.set] at hP hD
  rw [preT_s 59 (show TB 59 = nI 4 from by decide +kernel)] at hP hD
  have hP : va_P D vwCl [(h0, .inr (1, [.int 0, .ref q0, .int 0, .int 0, .ref q1, .ref q2, .ref q3, .ref q4, .int 0, .null, .null, .null, .null])), (q0, .inl (cI, 8, .inl (fun _ => 0))), (q1, .inl (cI, 140, .inl (fun _ => 0))), (q2, .inl (cI, 132, .inl (fun _ => 0))), (q3, .inl (cI, 4, .inl (fun _ => 0))), (q4, .inl (cI, 256, .inl (fun _ => 0))), (q5, .inl (cI, 128, .inl (preT 60)))] H := hP
  have hD : va_D A [(h0, .inr (1, [.int 0, .ref q0, .int 0, .int 0, .ref q1, .ref q2, .ref q3, .ref q4, .int 0, .null, .null, .null, .null])), (q0, .inl (cI, 8, .inl (fun _ => 0))), (q1, .inl (cI, 140, .inl (fun _ => 0))), (q2, .inl (cI, 132, .inl (fun _ => 0))), (q3, .inl (cI, 4, .inl (fun _ => 0))), (q4, .inl (cI, 256, .inl (fun _ => 0))), (q5, .inl (cI, 128, .inl (preT 60)))] := hD
  refine lv_dup hx hb dX1_init_383 rfl ?_
  refine lv_bipush (v := nI 60) hx hb dX1_init_384 (by decide) ?_
  refine lv_bipush (v := nI 10) hx hb dX1_init_386 (by decide) ?_
  refine wk_iast hx hb hK hP hD hS 6 0 rfl rfl (k := 60) (x := nI 10) (by decide) (by decide) dX1_init_388 (fun H locs hP hD hS => ?_)
  simp only [List.set] at hP hD
  rw [preT_s 60 (show TB 60 = nI 10 from by decide +kernel)] at hP hD
  have hP : va_P D vwCl [(h0, .inr (1, [.int 0, .ref q0, .int 0, .int 0, .ref q1, .ref q2, .ref q3, .ref q4, .int 0, .null, .null, .null, .null])), (q0, .inl (cI, 8, .inl (fun _ => 0))), (q1, .inl (cI, 140, .inl (fun _ => 0))), (q2, .inl (cI, 132, .inl (fun _ => 0))), (q3, .inl (cI, 4, .inl (fun _ => 0))), (q4, .inl (cI, 256, .inl (fun _ => 0))), (q5, .inl (cI, 128, .inl (preT 61)))] H := hP
  have hD : va_D A [(h0, .inr (1, [.int 0, .ref q0, .int 0, .int 0, .ref q1, .ref q2, .ref q3, .ref q4, .int 0, .null, .null, .null, .null])), (q0, .inl (cI, 8, .inl (fun _ => 0))), (q1, .inl (cI, 140, .inl (fun _ => 0))), (q2, .inl (cI, 132, .inl (fun _ => 0))), (q3, .inl (cI, 4, .inl (fun _ => 0))), (q4, .inl (cI, 256, .inl (fun _ => 0))), (q5, .inl (cI, 128, .inl (preT 61)))] := hD
  refine lv_dup hx hb dX1_init_389 rfl ?_
  refine lv_bipush (v := nI 61) hx hb dX1_init_390 (by decide) ?_
  refine lv_bipush (v := nI 7) hx hb dX1_init_392 (by decide) ?_
  refine wk_iast hx hb hK hP hD hS 6 0 rfl rfl (k := 61) (x := nI 7) (by decide) (by decide) dX1_init_394 (fun H locs hP hD hS => ?_)
  simp only [List.set] at hP hD
  rw [preT_s 61 (show TB 61 = nI 7 from by decide +kernel)] at hP hD
  have hP : va_P D vwCl [(h0, .inr (1, [.int 0, .ref q0, .int 0, .int 0, .ref q1, .ref q2, .ref q3, .ref q4, .int 0, .null, .null, .null, .null])), (q0, .inl (cI, 8, .inl (fun _ => 0))), (q1, .inl (cI, 140, .inl (fun _ => 0))), (q2, .inl (cI, 132, .inl (fun _ => 0))), (q3, .inl (cI, 4, .inl (fun _ => 0))), (q4, .inl (cI, 256, .inl (fun _ => 0))), (q5, .inl (cI, 128, .inl (preT 62)))] H := hP
  have hD : va_D A [(h0, .inr (1, [.int 0, .ref q0, .int 0, .int 0, .ref q1, .ref q2, .ref q3, .ref q4, .int 0, .null, .null, .null, .null])), (q0, .inl (cI, 8, .inl (fun _ => 0))), (q1, .inl (cI, 140, .inl (fun _ => 0))), (q2, .inl (cI, 132, .inl (fun _ => 0))), (q3, .inl (cI, 4, .inl (fun _ => 0))), (q4, .inl (cI, 256, .inl (fun _ => 0))), (q5, .inl (cI, 128, .inl (preT 62)))] := hD
  refine lv_dup hx hb dX1_init_395 rfl ?_
  refine lv_bipush (v := nI 62) hx hb dX1_init_396 (by decide) ?_
  refine lv_iconst (v := nI 5) hx hb dX1_init_398 (by decide) ?_
  refine wk_iast hx hb hK hP hD hS 6 0 rfl rfl (k := 62) (x := nI 5) (by decide) (by decide) dX1_init_399 (fun H locs hP hD hS => ?_)
  simp only [List.set] at hP hD
  rw [preT_s 62 (show TB 62 = nI 5 from by decide +kernel)] at hP hD
  have hP : va_P D vwCl [(h0, .inr (1, [.int 0, .ref q0, .int 0, .int 0, .ref q1, .ref q2, .ref q3, .ref q4, .int 0, .null, .null, .null, .null])), (q0, .inl (cI, 8, .inl (fun _ => 0))), (q1, .inl (cI, 140, .inl (fun _ => 0))), (q2, .inl (cI, 132, .inl (fun _ => 0))), (q3, .inl (cI, 4, .inl (fun _ => 0))), (q4, .inl (cI, 256, .inl (fun _ => 0))), (q5, .inl (cI, 128, .inl (preT 63)))] H := hP
  have hD : va_D A [(h0, .inr (1, [.int 0, .ref q0, .int 0, .int 0, .ref q1, .ref q2, .ref q3, .ref q4, .int 0, .null, .null, .null, .null])), (q0, .inl (cI, 8, .inl (fun _ => 0))), (q1, .inl (cI, 140, .inl (fun _ => 0))), (q2, .inl (cI, 132, .inl (fun _ => 0))), (q3, .inl (cI, 4, .inl (fun _ => 0))), (q4, .inl (cI, 256, .inl (fun _ => 0))), (q5, .inl (cI, 128, .inl (preT 63)))] := hD
  refine lv_dup hx hb dX1_init_400 rfl ?_
  refine lv_bipush (v := nI 63) hx hb dX1_init_401 (by decide) ?_
  refine lv_bipush (v := nI 14) hx hb dX1_init_403 (by decide) ?_
  refine wk_iast hx hb hK hP hD hS 6 0 rfl rfl (k := 63) (x := nI 14) (by decide) (by decide) dX1_init_405 (fun H locs hP hD hS => ?_)
  simp only [List.set] at hP hD
  rw [preT_s 63 (show TB 63 = nI 14 from by decide +kernel)] at hP hD
  have hP : va_P D vwCl [(h0, .inr (1, [.int 0, .ref q0, .int 0, .int 0, .ref q1, .ref q2, .ref q3, .ref q4, .int 0, .null, .null, .null, .null])), (q0, .inl (cI, 8, .inl (fun _ => 0))), (q1, .inl (cI, 140, .inl (fun _ => 0))), (q2, .inl (cI, 132, .inl (fun _ => 0))), (q3, .inl (cI, 4, .inl (fun _ => 0))), (q4, .inl (cI, 256, .inl (fun _ => 0))), (q5, .inl (cI, 128, .inl (preT 64)))] H := hP
  have hD : va_D A [(h0, .inr (1, [.int 0, .ref q0, .int 0, .int 0, .ref q1, .ref q2, .ref q3, .ref q4, .int 0, .null, .null, .null, .null])), (q0, .inl (cI, 8, .inl (fun _ => 0))), (q1, .inl (cI, 140, .inl (fun _ => 0))), (q2, .inl (cI, 132, .inl (fun _ => 0))), (q3, .inl (cI, 4, .inl (fun _ => 0))), (q4, .inl (cI, 256, .inl (fun _ => 0))), (q5, .inl (cI, 128, .inl (preT 64)))] := hD
  refine lv_dup hx hb dX1_init_406 rfl ?_
  refine lv_bipush (v := nI 64) hx hb dX1_init_407 (by decide) ?_
  refine lv_iconst (v := nI 1) hx hb dX1_init_409 (by decide) ?_
  refine wk_iast hx hb hK hP hD hS 6 0 rfl rfl (k := 64) (x := nI 1) (by decide) (by decide) dX1_init_410 (fun H locs hP hD hS => ?_)
  simp only [List.set] at hP hD
  rw [preT_s 64 (show TB 64 = nI 1 from by decide +kernel)] at hP hD
  have hP : va_P D vwCl [(h0, .inr (1, [.int 0, .ref q0, .int 0, .int 0, .ref q1, .ref q2, .ref q3, .ref q4, .int 0, .null, .null, .null, .null])), (q0, .inl (cI, 8, .inl (fun _ => 0))), (q1, .inl (cI, 140, .inl (fun _ => 0))), (q2, .inl (cI, 132, .inl (fun _ => 0))), (q3, .inl (cI, 4, .inl (fun _ => 0))), (q4, .inl (cI, 256, .inl (fun _ => 0))), (q5, .inl (cI, 128, .inl (preT 65)))] H := hP
  have hD : va_D A [(h0, .inr (1, [.int 0, .ref q0, .int 0, .int 0, .ref q1, .ref q2, .ref q3, .ref q4, .int 0, .null, .null, .null, .null])), (q0, .inl (cI, 8, .inl (fun _ => 0))), (q1, .inl (cI, 140, .inl (fun _ => 0))), (q2, .inl (cI, 132, .inl (fun _ => 0))), (q3, .inl (cI, 4, .inl (fun _ => 0))), (q4, .inl (cI, 256, .inl (fun _ => 0))), (q5, .inl (cI, 128, .inl (preT 65)))] := hD
  refine lv_dup hx hb dX1_init_411 rfl ?_
  refine lv_bipush (v := nI 65) hx hb dX1_init_412 (by decide) ?_
  refine lv_bipush (v := nI 15) hx hb dX1_init_414 (by decide) ?_
  refine wk_iast hx hb hK hP hD hS 6 0 rfl rfl (k := 65) (x := nI 15) (by decide) (by decide) dX1_init_416 (fun H locs hP hD hS => ?_)
  simp only [List.set] at hP hD
  rw [preT_s 65 (show TB 65 = nI 15 from by decide +kernel)] at hP hD
  have hP : va_P D vwCl [(h0, .inr (1, [.int 0, .ref q0, .int 0, .int 0, .ref q1, .ref q2, .ref q3, .ref q4, .int 0, .null, .null, .null, .null])), (q0, .inl (cI, 8, .inl (fun _ => 0))), (q1, .inl (cI, 140, .inl (fun _ => 0))), (q2, .inl (cI, 132, .inl (fun _ => 0))), (q3, .inl (cI, 4, .inl (fun _ => 0))), (q4, .inl (cI, 256, .inl (fun _ => 0))), (q5, .inl (cI, 128, .inl (preT 66)))] H := hP
  have hD : va_D A [(h0, .inr (1, [.int 0, .ref q0, .int 0, .int 0, .ref q1, .ref q2, .ref q3, .ref q4, .int 0, .null, .null, .null, .null])), (q0, .inl (cI, 8, .inl (fun _ => 0))), (q1, .inl (cI, 140, .inl (fun _ => 0))), (q2, .inl (cI, 132, .inl (fun _ => 0))), (q3, .inl (cI, 4, .inl (fun _ => 0))), (q4, .inl (cI, 256, .inl (fun _ => 0))), (q5, .inl (cI, 128, .inl (preT 66)))] := hD
  refine lv_dup hx hb dX1_init_417 rfl ?_
  refine lv_bipush (v := nI 66) hx hb dX1_init_418 (by decide) ?_
  refine lv_bipush (v := nI 8) hx hb dX1_init_420 (by decide) ?_
  refine wk_iast hx hb hK hP hD hS 6 0 rfl rfl (k := 66) (x := nI 8) (by decide) (by decide) dX1_init_422 (fun H locs hP hD hS => ?_)
  simp only [List.set] at hP hD
  rw [preT_s 66 (show TB 66 = nI 8 from by decide +kernel)] at hP hD
  have hP : va_P D vwCl [(h0, .inr (1, [.int 0, .ref q0, .int 0, .int 0, .ref q1, .ref q2, .ref q3, .ref q4, .int 0, .null, .null, .null, .null])), (q0, .inl (cI, 8, .inl (fun _ => 0))), (q1, .inl (cI, 140, .inl (fun _ => 0))), (q2, .inl (cI, 132, .inl (fun _ => 0))), (q3, .inl (cI, 4, .inl (fun _ => 0))), (q4, .inl (cI, 256, .inl (fun _ => 0))), (q5, .inl (cI, 128, .inl (preT 67)))] H := hP
  have hD : va_D A [(h0, .inr (1, [.int 0, .ref q0, .int 0, .int 0, .ref q1, .ref q2, .ref q3, .ref q4, .int 0, .null, .null, .null, .null])), (q0, .inl (cI, 8, .inl (fun _ => 0))), (q1, .inl (cI, 140, .inl (fun _ => 0))), (q2, .inl (cI, 132, .inl (fun _ => 0))), (q3, .inl (cI, 4, .inl (fun _ => 0))), (q4, .inl (cI, 256, .inl (fun _ => 0))), (q5, .inl (cI, 128, .inl (preT 67)))] := hD
  refine lv_dup hx hb dX1_init_423 rfl ?_
  refine lv_bipush (v := nI 67) hx hb dX1_init_424 (by decide) ?_
  refine lv_iconst (v := nI 3) hx hb dX1_init_426 (by decide) ?_
  refine wk_iast hx hb hK hP hD hS 6 0 rfl rfl (k := 67) (x := nI 3) (by decide) (by decide) dX1_init_427 (fun H locs hP hD hS => ?_)
  simp only [List.set] at hP hD
  rw [preT_s 67 (show TB 67 = nI 3 from by decide +kernel)] at hP hD
  have hP : va_P D vwCl [(h0, .inr (1, [.int 0, .ref q0, .int 0, .int 0, .ref q1, .ref q2, .ref q3, .ref q4, .int 0, .null, .null, .null, .null])), (q0, .inl (cI, 8, .inl (fun _ => 0))), (q1, .inl (cI, 140, .inl (fun _ => 0))), (q2, .inl (cI, 132, .inl (fun _ => 0))), (q3, .inl (cI, 4, .inl (fun _ => 0))), (q4, .inl (cI, 256, .inl (fun _ => 0))), (q5, .inl (cI, 128, .inl (preT 68)))] H := hP
  have hD : va_D A [(h0, .inr (1, [.int 0, .ref q0, .int 0, .int 0, .ref q1, .ref q2, .ref q3, .ref q4, .int 0, .null, .null, .null, .null])), (q0, .inl (cI, 8, .inl (fun _ => 0))), (q1, .inl (cI, 140, .inl (fun _ => 0))), (q2, .inl (cI, 132, .inl (fun _ => 0))), (q3, .inl (cI, 4, .inl (fun _ => 0))), (q4, .inl (cI, 256, .inl (fun _ => 0))), (q5, .inl (cI, 128, .inl (preT 68)))] := hD
  refine lv_dup hx hb dX1_init_428 rfl ?_
  refine lv_bipush (v := nI 68) hx hb dX1_init_429 (by decide) ?_
  refine lv_bipush (v := nI 12) hx hb dX1_init_431 (by decide) ?_
  refine wk_iast hx hb hK hP hD hS 6 0 rfl rfl (k := 68) (x := nI 12) (by decide) (by decide) dX1_init_433 (fun H locs hP hD hS => ?_)
  simp only [List.set] at hP hD
  rw [preT_s 68 (show TB 68 = nI 12 from by decide +kernel)] at hP hD
  have hP : va_P D vwCl [(h0, .inr (1, [.int 0, .ref q0, .int 0, .int 0, .ref q1, .ref q2, .ref q3, .ref q4, .int 0, .null, .null, .null, .null])), (q0, .inl (cI, 8, .inl (fun _ => 0))), (q1, .inl (cI, 140, .inl (fun _ => 0))), (q2, .inl (cI, 132, .inl (fun _ => 0))), (q3, .inl (cI, 4, .inl (fun _ => 0))), (q4, .inl (cI, 256, .inl (fun _ => 0))), (q5, .inl (cI, 128, .inl (preT 69)))] H := hP
  have hD : va_D A [(h0, .inr (1, [.int 0, .ref q0, .int 0, .int 0, .ref q1, .ref q2, .ref q3, .ref q4, .int 0, .null, .null, .null, .null])), (q0, .inl (cI, 8, .inl (fun _ => 0))), (q1, .inl (cI, 140, .inl (fun _ => 0))), (q2, .inl (cI, 132, .inl (fun _ => 0))), (q3, .inl (cI, 4, .inl (fun _ => 0))), (q4, .inl (cI, 256, .inl (fun _ => 0))), (q5, .inl (cI, 128, .inl (preT 69)))] := hD
  refine lv_dup hx hb dX1_init_434 rfl ?_
  refine lv_bipush (v := nI 69) hx hb dX1_init_435 (by decide) ?_
  refine lv_iconst (v := nI 0) hx hb dX1_init_437 (by decide) ?_
  refine wk_iast hx hb hK hP hD hS 6 0 rfl rfl (k := 69) (x := nI 0) (by decide) (by decide) dX1_init_438 (fun H locs hP hD hS => ?_)
  simp only [List.set] at hP hD
  rw [preT_s 69 (show TB 69 = nI 0 from by decide +kernel)] at hP hD
  have hP : va_P D vwCl [(h0, .inr (1, [.int 0, .ref q0, .int 0, .int 0, .ref q1, .ref q2, .ref q3, .ref q4, .int 0, .null, .null, .null, .null])), (q0, .inl (cI, 8, .inl (fun _ => 0))), (q1, .inl (cI, 140, .inl (fun _ => 0))), (q2, .inl (cI, 132, .inl (fun _ => 0))), (q3, .inl (cI, 4, .inl (fun _ => 0))), (q4, .inl (cI, 256, .inl (fun _ => 0))), (q5, .inl (cI, 128, .inl (preT 70)))] H := hP
  have hD : va_D A [(h0, .inr (1, [.int 0, .ref q0, .int 0, .int 0, .ref q1, .ref q2, .ref q3, .ref q4, .int 0, .null, .null, .null, .null])), (q0, .inl (cI, 8, .inl (fun _ => 0))), (q1, .inl (cI, 140, .inl (fun _ => 0))), (q2, .inl (cI, 132, .inl (fun _ => 0))), (q3, .inl (cI, 4, .inl (fun _ => 0))), (q4, .inl (cI, 256, .inl (fun _ => 0))), (q5, .inl (cI, 128, .inl (preT 70)))] := hD
  refine lv_dup hx hb dX1_init_439 rfl ?_
  refine lv_bipush (v := nI 70) hx hb dX1_init_440 (by decide) ?_
  refine lv_bipush (v := nI 11) hx hb dX1_init_442 (by decide) ?_
  refine wk_iast hx hb hK hP hD hS 6 0 rfl rfl (k := 70) (x := nI 11) (by decide) (by decide) dX1_init_444 (fun H locs hP hD hS => ?_)
  simp only [List.set] at hP hD
  rw [preT_s 70 (show TB 70 = nI 11 from by decide +kernel)] at hP hD
  have hP : va_P D vwCl [(h0, .inr (1, [.int 0, .ref q0, .int 0, .int 0, .ref q1, .ref q2, .ref q3, .ref q4, .int 0, .null, .null, .null, .null])), (q0, .inl (cI, 8, .inl (fun _ => 0))), (q1, .inl (cI, 140, .inl (fun _ => 0))), (q2, .inl (cI, 132, .inl (fun _ => 0))), (q3, .inl (cI, 4, .inl (fun _ => 0))), (q4, .inl (cI, 256, .inl (fun _ => 0))), (q5, .inl (cI, 128, .inl (preT 71)))] H := hP
  have hD : va_D A [(h0, .inr (1, [.int 0, .ref q0, .int 0, .int 0, .ref q1, .ref q2, .ref q3, .ref q4, .int 0, .null, .null, .null, .null])), (q0, .inl (cI, 8, .inl (fun _ => 0))), (q1, .inl (cI, 140, .inl (fun _ => 0))), (q2, .inl (cI, 132, .inl (fun _ => 0))), (q3, .inl (cI, 4, .inl (fun _ => 0))), (q4, .inl (cI, 256, .inl (fun _ => 0))), (q5, .inl (cI, 128, .inl (preT 71)))] := hD
  refine lv_dup hx hb dX1_init_445 rfl ?_
  refine lv_bipush (v := nI 71) hx hb dX1_init_446 (by decide) ?_
  refine lv_bipush (v := nI 6) hx hb dX1_init_448 (by decide) ?_
  refine wk_iast hx hb hK hP hD hS 6 0 rfl rfl (k := 71) (x := nI 6) (by decide) (by decide) dX1_init_450 (fun H locs hP hD hS => ?_)
  simp only [List.set] at hP hD
  rw [preT_s 71 (show TB 71 = nI 6 from by decide +kernel)] at hP hD
  have hP : va_P D vwCl [(h0, .inr (1, [.int 0, .ref q0, .int 0, .int 0, .ref q1, .ref q2, .ref q3, .ref q4, .int 0, .null, .null, .null, .null])), (q0, .inl (cI, 8, .inl (fun _ => 0))), (q1, .inl (cI, 140, .inl (fun _ => 0))), (q2, .inl (cI, 132, .inl (fun _ => 0))), (q3, .inl (cI, 4, .inl (fun _ => 0))), (q4, .inl (cI, 256, .inl (fun _ => 0))), (q5, .inl (cI, 128, .inl (preT 72)))] H := hP
  have hD : va_D A [(h0, .inr (1, [.int 0, .ref q0, .int 0, .int 0, .ref q1, .ref q2, .ref q3, .ref q4, .int 0, .null, .null, .null, .null])), (q0, .inl (cI, 8, .inl (fun _ => 0))), (q1, .inl (cI, 140, .inl (fun _ => 0))), (q2, .inl (cI, 132, .inl (fun _ => 0))), (q3, .inl (cI, 4, .inl (fun _ => 0))), (q4, .inl (cI, 256, .inl (fun _ => 0))), (q5, .inl (cI, 128, .inl (preT 72)))] := hD
  refine lv_dup hx hb dX1_init_451 rfl ?_
  refine lv_bipush (v := nI 72) hx hb dX1_init_452 (by decide) ?_
  refine lv_iconst (v := nI 2) hx hb dX1_init_454 (by decide) ?_
  refine wk_iast hx hb hK hP hD hS 6 0 rfl rfl (k := 72) (x := nI 2) (by decide) (by decide) dX1_init_455 (fun H locs hP hD hS => ?_)
  simp only [List.set] at hP hD
  rw [preT_s 72 (show TB 72 = nI 2 from by decide +kernel)] at hP hD
  have hP : va_P D vwCl [(h0, .inr (1, [.int 0, .ref q0, .int 0, .int 0, .ref q1, .ref q2, .ref q3, .ref q4, .int 0, .null, .null, .null, .null])), (q0, .inl (cI, 8, .inl (fun _ => 0))), (q1, .inl (cI, 140, .inl (fun _ => 0))), (q2, .inl (cI, 132, .inl (fun _ => 0))), (q3, .inl (cI, 4, .inl (fun _ => 0))), (q4, .inl (cI, 256, .inl (fun _ => 0))), (q5, .inl (cI, 128, .inl (preT 73)))] H := hP
  have hD : va_D A [(h0, .inr (1, [.int 0, .ref q0, .int 0, .int 0, .ref q1, .ref q2, .ref q3, .ref q4, .int 0, .null, .null, .null, .null])), (q0, .inl (cI, 8, .inl (fun _ => 0))), (q1, .inl (cI, 140, .inl (fun _ => 0))), (q2, .inl (cI, 132, .inl (fun _ => 0))), (q3, .inl (cI, 4, .inl (fun _ => 0))), (q4, .inl (cI, 256, .inl (fun _ => 0))), (q5, .inl (cI, 128, .inl (preT 73)))] := hD
  refine lv_dup hx hb dX1_init_456 rfl ?_
  refine lv_bipush (v := nI 73) hx hb dX1_init_457 (by decide) ?_
  refine lv_iconst (v := nI 5) hx hb dX1_init_459 (by decide) ?_
  refine wk_iast hx hb hK hP hD hS 6 0 rfl rfl (k := 73) (x := nI 5) (by decide) (by decide) dX1_init_460 (fun H locs hP hD hS => ?_)
  simp only [List.set] at hP hD
  rw [preT_s 73 (show TB 73 = nI 5 from by decide +kernel)] at hP hD
  have hP : va_P D vwCl [(h0, .inr (1, [.int 0, .ref q0, .int 0, .int 0, .ref q1, .ref q2, .ref q3, .ref q4, .int 0, .null, .null, .null, .null])), (q0, .inl (cI, 8, .inl (fun _ => 0))), (q1, .inl (cI, 140, .inl (fun _ => 0))), (q2, .inl (cI, 132, .inl (fun _ => 0))), (q3, .inl (cI, 4, .inl (fun _ => 0))), (q4, .inl (cI, 256, .inl (fun _ => 0))), (q5, .inl (cI, 128, .inl (preT 74)))] H := hP
  have hD : va_D A [(h0, .inr (1, [.int 0, .ref q0, .int 0, .int 0, .ref q1, .ref q2, .ref q3, .ref q4, .int 0, .null, .null, .null, .null])), (q0, .inl (cI, 8, .inl (fun _ => 0))), (q1, .inl (cI, 140, .inl (fun _ => 0))), (q2, .inl (cI, 132, .inl (fun _ => 0))), (q3, .inl (cI, 4, .inl (fun _ => 0))), (q4, .inl (cI, 256, .inl (fun _ => 0))), (q5, .inl (cI, 128, .inl (preT 74)))] := hD
  refine lv_dup hx hb dX1_init_461 rfl ?_
  refine lv_bipush (v := nI 74) hx hb dX1_init_462 (by decide) ?_
  refine lv_iconst (v := nI 4) hx hb dX1_init_464 (by decide) ?_
  refine wk_iast hx hb hK hP hD hS 6 0 rfl rfl (k := 74) (x := nI 4) (by decide) (by decide) dX1_init_465 (fun H locs hP hD hS => ?_)
  simp only [List.set] at hP hD
  rw [preT_s 74 (show TB 74 = nI 4 from by decide +kernel)] at hP hD
  have hP : va_P D vwCl [(h0, .inr (1, [.int 0, .ref q0, .int 0, .int 0, .ref q1, .ref q2, .ref q3, .ref q4, .int 0, .null, .null, .null, .null])), (q0, .inl (cI, 8, .inl (fun _ => 0))), (q1, .inl (cI, 140, .inl (fun _ => 0))), (q2, .inl (cI, 132, .inl (fun _ => 0))), (q3, .inl (cI, 4, .inl (fun _ => 0))), (q4, .inl (cI, 256, .inl (fun _ => 0))), (q5, .inl (cI, 128, .inl (preT 75)))] H := hP
  have hD : va_D A [(h0, .inr (1, [.int 0, .ref q0, .int 0, .int 0, .ref q1, .ref q2, .ref q3, .ref q4, .int 0, .null, .null, .null, .null])), (q0, .inl (cI, 8, .inl (fun _ => 0))), (q1, .inl (cI, 140, .inl (fun _ => 0))), (q2, .inl (cI, 132, .inl (fun _ => 0))), (q3, .inl (cI, 4, .inl (fun _ => 0))), (q4, .inl (cI, 256, .inl (fun _ => 0))), (q5, .inl (cI, 128, .inl (preT 75)))] := hD
  refine lv_dup hx hb dX1_init_466 rfl ?_
  refine lv_bipush (v := nI 75) hx hb dX1_init_467 (by decide) ?_
  refine lv_bipush (v := nI 10) hx hb dX1_init_469 (by decide) ?_
  refine wk_iast hx hb hK hP hD hS 6 0 rfl rfl (k := 75) (x := nI 10) (by decide) (by decide) dX1_init_471 (fun H locs hP hD hS => ?_)
  simp only [List.set] at hP hD
  rw [preT_s 75 (show TB 75 = nI 10 from by decide +kernel)] at hP hD
  have hP : va_P D vwCl [(h0, .inr (1, [.int 0, .ref q0, .int 0, .int 0, .ref q1, .ref q2, .ref q3, .ref q4, .int 0, .null, .null, .null, .null])), (q0, .inl (cI, 8, .inl (fun _ => 0))), (q1, .inl (cI, 140, .inl (fun _ => 0))), (q2, .inl (cI, 132, .inl (fun _ => 0))), (q3, .inl (cI, 4, .inl (fun _ => 0))), (q4, .inl (cI, 256, .inl (fun _ => 0))), (q5, .inl (cI, 128, .inl (preT 76)))] H := hP
  have hD : va_D A [(h0, .inr (1, [.int 0, .ref q0, .int 0, .int 0, .ref q1, .ref q2, .ref q3, .ref q4, .int 0, .null, .null, .null, .null])), (q0, .inl (cI, 8, .inl (fun _ => 0))), (q1, .inl (cI, 140, .inl (fun _ => 0))), (q2, .inl (cI, 132, .inl (fun _ => 0))), (q3, .inl (cI, 4, .inl (fun _ => 0))), (q4, .inl (cI, 256, .inl (fun _ => 0))), (q5, .inl (cI, 128, .inl (preT 76)))] := hD
  refine lv_dup hx hb dX1_init_472 rfl ?_
  refine lv_bipush (v := nI 76) hx hb dX1_init_473 (by decide) ?_
  refine lv_bipush (v := nI 9) hx hb dX1_init_475 (by decide) ?_
  refine wk_iast hx hb hK hP hD hS 6 0 rfl rfl (k := 76) (x := nI 9) (by decide) (by decide) dX1_init_477 (fun H locs hP hD hS => ?_)
  simp only [List.set] at hP hD
  rw [preT_s 76 (show TB 76 = nI 9 from by decide +kernel)] at hP hD
  have hP : va_P D vwCl [(h0, .inr (1, [.int 0, .ref q0, .int 0, .int 0, .ref q1, .ref q2, .ref q3, .ref q4, .int 0, .null, .null, .null, .null])), (q0, .inl (cI, 8, .inl (fun _ => 0))), (q1, .inl (cI, 140, .inl (fun _ => 0))), (q2, .inl (cI, 132, .inl (fun _ => 0))), (q3, .inl (cI, 4, .inl (fun _ => 0))), (q4, .inl (cI, 256, .inl (fun _ => 0))), (q5, .inl (cI, 128, .inl (preT 77)))] H := hP
  have hD : va_D A [(h0, .inr (1, [.int 0, .ref q0, .int 0, .int 0, .ref q1, .ref q2, .ref q3, .ref q4, .int 0, .null, .null, .null, .null])), (q0, .inl (cI, 8, .inl (fun _ => 0))), (q1, .inl (cI, 140, .inl (fun _ => 0))), (q2, .inl (cI, 132, .inl (fun _ => 0))), (q3, .inl (cI, 4, .inl (fun _ => 0))), (q4, .inl (cI, 256, .inl (fun _ => 0))), (q5, .inl (cI, 128, .inl (preT 77)))] := hD
  refine lv_dup hx hb dX1_init_478 rfl ?_
  refine lv_bipush (v := nI 77) hx hb dX1_init_479 (by decide) ?_
  refine lv_bipush (v := nI 14) hx hb dX1_init_481 (by decide) ?_
  refine wk_iast hx hb hK hP hD hS 6 0 rfl rfl (k := 77) (x := nI 14) (by decide) (by decide) dX1_init_483 (fun H locs hP hD hS => ?_)
  simp only [List.set] at hP hD
  rw [preT_s 77 (show TB 77 = nI 14 from by decide +kernel)] at hP hD
  have hP : va_P D vwCl [(h0, .inr (1, [.int 0, .ref q0, .int 0, .int 0, .ref q1, .ref q2, .ref q3, .ref q4, .int 0, .null, .null, .null, .null])), (q0, .inl (cI, 8, .inl (fun _ => 0))), (q1, .inl (cI, 140, .inl (fun _ => 0))), (q2, .inl (cI, 132, .inl (fun _ => 0))), (q3, .inl (cI, 4, .inl (fun _ => 0))), (q4, .inl (cI, 256, .inl (fun _ => 0))), (q5, .inl (cI, 128, .inl (preT 78)))] H := hP
  have hD : va_D A [(h0, .inr (1, [.int 0, .ref q0, .int 0, .int 0, .ref q1, .ref q2, .ref q3, .ref q4, .int 0, .null, .null, .null, .null])), (q0, .inl (cI, 8, .inl (fun _ => 0))), (q1, .inl (cI, 140, .inl (fun _ => 0))), (q2, .inl (cI, 132, .inl (fun _ => 0))), (q3, .inl (cI, 4, .inl (fun _ => 0))), (q4, .inl (cI, 256, .inl (fun _ => 0))), (q5, .inl (cI, 128, .inl (preT 78)))] := hD
  refine lv_dup hx hb dX1_init_484 rfl ?_
  refine lv_bipush (v := nI 78) hx hb dX1_init_485 (by decide) ?_
  refine lv_bipush (v := nI 7) hx hb dX1_init_487 (by decide) ?_
  refine wk_iast hx hb hK hP hD hS 6 0 rfl rfl (k := 78) (x := nI 7) (by decide) (by decide) dX1_init_489 (fun H locs hP hD hS => ?_)
  simp only [List.set] at hP hD
  rw [preT_s 78 (show TB 78 = nI 7 from by decide +kernel)] at hP hD
  have hP : va_P D vwCl [(h0, .inr (1, [.int 0, .ref q0, .int 0, .int 0, .ref q1, .ref q2, .ref q3, .ref q4, .int 0, .null, .null, .null, .null])), (q0, .inl (cI, 8, .inl (fun _ => 0))), (q1, .inl (cI, 140, .inl (fun _ => 0))), (q2, .inl (cI, 132, .inl (fun _ => 0))), (q3, .inl (cI, 4, .inl (fun _ => 0))), (q4, .inl (cI, 256, .inl (fun _ => 0))), (q5, .inl (cI, 128, .inl (preT 79)))] H := hP
  have hD : va_D A [(h0, .inr (1, [.int 0, .ref q0, .int 0, .int 0, .ref q1, .ref q2, .ref q3, .ref q4, .int 0, .null, .null, .null, .null])), (q0, .inl (cI, 8, .inl (fun _ => 0))), (q1, .inl (cI, 140, .inl (fun _ => 0))), (q2, .inl (cI, 132, .inl (fun _ => 0))), (q3, .inl (cI, 4, .inl (fun _ => 0))), (q4, .inl (cI, 256, .inl (fun _ => 0))), (q5, .inl (cI, 128, .inl (preT 79)))] := hD
  refine lv_dup hx hb dX1_init_490 rfl ?_
  refine lv_bipush (v := nI 79) hx hb dX1_init_491 (by decide) ?_
  refine lv_bipush (v := nI 13) hx hb dX1_init_493 (by decide) ?_
  refine wk_iast hx hb hK hP hD hS 6 0 rfl rfl (k := 79) (x := nI 13) (by decide) (by decide) dX1_init_495 (fun H locs hP hD hS => ?_)
  simp only [List.set] at hP hD
  rw [preT_s 79 (show TB 79 = nI 13 from by decide +kernel)] at hP hD
  have hP : va_P D vwCl [(h0, .inr (1, [.int 0, .ref q0, .int 0, .int 0, .ref q1, .ref q2, .ref q3, .ref q4, .int 0, .null, .null, .null, .null])), (q0, .inl (cI, 8, .inl (fun _ => 0))), (q1, .inl (cI, 140, .inl (fun _ => 0))), (q2, .inl (cI, 132, .inl (fun _ => 0))), (q3, .inl (cI, 4, .inl (fun _ => 0))), (q4, .inl (cI, 256, .inl (fun _ => 0))), (q5, .inl (cI, 128, .inl (preT 80)))] H := hP
  have hD : va_D A [(h0, .inr (1, [.int 0, .ref q0, .int 0, .int 0, .ref q1, .ref q2, .ref q3, .ref q4, .int 0, .null, .null, .null, .null])), (q0, .inl (cI, 8, .inl (fun _ => 0))), (q1, .inl (cI, 140, .inl (fun _ => 0))), (q2, .inl (cI, 132, .inl (fun _ => 0))), (q3, .inl (cI, 4, .inl (fun _ => 0))), (q4, .inl (cI, 256, .inl (fun _ => 0))), (q5, .inl (cI, 128, .inl (preT 80)))] := hD
  refine lv_dup hx hb dX1_init_496 rfl ?_
  refine lv_bipush (v := nI 80) hx hb dX1_init_497 (by decide) ?_
  refine lv_bipush (v := nI 15) hx hb dX1_init_499 (by decide) ?_
  refine wk_iast hx hb hK hP hD hS 6 0 rfl rfl (k := 80) (x := nI 15) (by decide) (by decide) dX1_init_501 (fun H locs hP hD hS => ?_)
  simp only [List.set] at hP hD
  rw [preT_s 80 (show TB 80 = nI 15 from by decide +kernel)] at hP hD
  have hP : va_P D vwCl [(h0, .inr (1, [.int 0, .ref q0, .int 0, .int 0, .ref q1, .ref q2, .ref q3, .ref q4, .int 0, .null, .null, .null, .null])), (q0, .inl (cI, 8, .inl (fun _ => 0))), (q1, .inl (cI, 140, .inl (fun _ => 0))), (q2, .inl (cI, 132, .inl (fun _ => 0))), (q3, .inl (cI, 4, .inl (fun _ => 0))), (q4, .inl (cI, 256, .inl (fun _ => 0))), (q5, .inl (cI, 128, .inl (preT 81)))] H := hP
  have hD : va_D A [(h0, .inr (1, [.int 0, .ref q0, .int 0, .int 0, .ref q1, .ref q2, .ref q3, .ref q4, .int 0, .null, .null, .null, .null])), (q0, .inl (cI, 8, .inl (fun _ => 0))), (q1, .inl (cI, 140, .inl (fun _ => 0))), (q2, .inl (cI, 132, .inl (fun _ => 0))), (q3, .inl (cI, 4, .inl (fun _ => 0))), (q4, .inl (cI, 256, .inl (fun _ => 0))), (q5, .inl (cI, 128, .inl (preT 81)))] := hD
  refine lv_dup hx hb dX1_init_502 rfl ?_
  refine lv_bipush (v := nI 81) hx hb dX1_init_503 (by decide) ?_
  refine lv_iconst (v := nI 5) hx hb dX1_init_505 (by decide) ?_
  refine wk_iast hx hb hK hP hD hS 6 0 rfl rfl (k := 81) (x := nI 5) (by decide) (by decide) dX1_init_506 (fun H locs hP hD hS => ?_)
  simp only [List.set] at hP hD
  rw [preT_s 81 (show TB 81 = nI 5 from by decide +kernel)] at hP hD
  have hP : va_P D vwCl [(h0, .inr (1, [.int 0, .ref q0, .int 0, .int 0, .ref q1, .ref q2, .ref q3, .ref q4, .int 0, .null, .null, .null, .null])), (q0, .inl (cI, 8, .inl (fun _ => 0))), (q1, .inl (cI, 140, .inl (fun _ => 0))), (q2, .inl (cI, 132, .inl (fun _ => 0))), (q3, .inl (cI, 4, .inl (fun _ => 0))), (q4, .inl (cI, 256, .inl (fun _ => 0))), (q5, .inl (cI, 128, .inl (preT 82)))] H := hP
  have hD : va_D A [(h0, .inr (1, [.int 0, .ref q0, .int 0, .int 0, .ref q1, .ref q2, .ref q3, .ref q4, .int 0, .null, .null, .null, .null])), (q0, .inl (cI, 8, .inl (fun _ => 0))), (q1, .inl (cI, 140, .inl (fun _ => 0))), (q2, .inl (cI, 132, .inl (fun _ => 0))), (q3, .inl (cI, 4, .inl (fun _ => 0))), (q4, .inl (cI, 256, .inl (fun _ => 0))), (q5, .inl (cI, 128, .inl (preT 82)))] := hD
  refine lv_dup hx hb dX1_init_507 rfl ?_
  refine lv_bipush (v := nI 82) hx hb dX1_init_508 (by decide) ?_
  refine lv_iconst (v := nI 2) hx hb dX1_init_510 (by decide) ?_
  refine wk_iast hx hb hK hP hD hS 6 0 rfl rfl (k := 82) (x := nI 2) (by decide) (by decide) dX1_init_511 (fun H locs hP hD hS => ?_)
  simp only [List.set] at hP hD
  rw [preT_s 82 (show TB 82 = nI 2 from by decide +kernel)] at hP hD
  have hP : va_P D vwCl [(h0, .inr (1, [.int 0, .ref q0, .int 0, .int 0, .ref q1, .ref q2, .ref q3, .ref q4, .int 0, .null, .null, .null, .null])), (q0, .inl (cI, 8, .inl (fun _ => 0))), (q1, .inl (cI, 140, .inl (fun _ => 0))), (q2, .inl (cI, 132, .inl (fun _ => 0))), (q3, .inl (cI, 4, .inl (fun _ => 0))), (q4, .inl (cI, 256, .inl (fun _ => 0))), (q5, .inl (cI, 128, .inl (preT 83)))] H := hP
  have hD : va_D A [(h0, .inr (1, [.int 0, .ref q0, .int 0, .int 0, .ref q1, .ref q2, .ref q3, .ref q4, .int 0, .null, .null, .null, .null])), (q0, .inl (cI, 8, .inl (fun _ => 0))), (q1, .inl (cI, 140, .inl (fun _ => 0))), (q2, .inl (cI, 132, .inl (fun _ => 0))), (q3, .inl (cI, 4, .inl (fun _ => 0))), (q4, .inl (cI, 256, .inl (fun _ => 0))), (q5, .inl (cI, 128, .inl (preT 83)))] := hD
  refine lv_dup hx hb dX1_init_512 rfl ?_
  refine lv_bipush (v := nI 83) hx hb dX1_init_513 (by decide) ?_
  refine lv_bipush (v := nI 11) hx hb dX1_init_515 (by decide) ?_
  refine wk_iast hx hb hK hP hD hS 6 0 rfl rfl (k := 83) (x := nI 11) (by decide) (by decide) dX1_init_517 (fun H locs hP hD hS => ?_)
  simp only [List.set] at hP hD
  rw [preT_s 83 (show TB 83 = nI 11 from by decide +kernel)] at hP hD
  have hP : va_P D vwCl [(h0, .inr (1, [.int 0, .ref q0, .int 0, .int 0, .ref q1, .ref q2, .ref q3, .ref q4, .int 0, .null, .null, .null, .null])), (q0, .inl (cI, 8, .inl (fun _ => 0))), (q1, .inl (cI, 140, .inl (fun _ => 0))), (q2, .inl (cI, 132, .inl (fun _ => 0))), (q3, .inl (cI, 4, .inl (fun _ => 0))), (q4, .inl (cI, 256, .inl (fun _ => 0))), (q5, .inl (cI, 128, .inl (preT 84)))] H := hP
  have hD : va_D A [(h0, .inr (1, [.int 0, .ref q0, .int 0, .int 0, .ref q1, .ref q2, .ref q3, .ref q4, .int 0, .null, .null, .null, .null])), (q0, .inl (cI, 8, .inl (fun _ => 0))), (q1, .inl (cI, 140, .inl (fun _ => 0))), (q2, .inl (cI, 132, .inl (fun _ => 0))), (q3, .inl (cI, 4, .inl (fun _ => 0))), (q4, .inl (cI, 256, .inl (fun _ => 0))), (q5, .inl (cI, 128, .inl (preT 84)))] := hD
  refine lv_dup hx hb dX1_init_518 rfl ?_
  refine lv_bipush (v := nI 84) hx hb dX1_init_519 (by decide) ?_
  refine lv_iconst (v := nI 4) hx hb dX1_init_521 (by decide) ?_
  refine wk_iast hx hb hK hP hD hS 6 0 rfl rfl (k := 84) (x := nI 4) (by decide) (by decide) dX1_init_522 (fun H locs hP hD hS => ?_)
  simp only [List.set] at hP hD
  rw [preT_s 84 (show TB 84 = nI 4 from by decide +kernel)] at hP hD
  have hP : va_P D vwCl [(h0, .inr (1, [.int 0, .ref q0, .int 0, .int 0, .ref q1, .ref q2, .ref q3, .ref q4, .int 0, .null, .null, .null, .null])), (q0, .inl (cI, 8, .inl (fun _ => 0))), (q1, .inl (cI, 140, .inl (fun _ => 0))), (q2, .inl (cI, 132, .inl (fun _ => 0))), (q3, .inl (cI, 4, .inl (fun _ => 0))), (q4, .inl (cI, 256, .inl (fun _ => 0))), (q5, .inl (cI, 128, .inl (preT 85)))] H := hP
  have hD : va_D A [(h0, .inr (1, [.int 0, .ref q0, .int 0, .int 0, .ref q1, .ref q2, .ref q3, .ref q4, .int 0, .null, .null, .null, .null])), (q0, .inl (cI, 8, .inl (fun _ => 0))), (q1, .inl (cI, 140, .inl (fun _ => 0))), (q2, .inl (cI, 132, .inl (fun _ => 0))), (q3, .inl (cI, 4, .inl (fun _ => 0))), (q4, .inl (cI, 256, .inl (fun _ => 0))), (q5, .inl (cI, 128, .inl (preT 85)))] := hD
  refine lv_dup hx hb dX1_init_523 rfl ?_
  refine lv_bipush (v := nI 85) hx hb dX1_init_524 (by decide) ?_
  refine lv_bipush (v := nI 10) hx hb dX1_init_526 (by decide) ?_
  refine wk_iast hx hb hK hP hD hS 6 0 rfl rfl (k := 85) (x := nI 10) (by decide) (by decide) dX1_init_528 (fun H locs hP hD hS => ?_)
  simp only [List.set] at hP hD
  rw [preT_s 85 (show TB 85 = nI 10 from by decide +kernel)] at hP hD
  have hP : va_P D vwCl [(h0, .inr (1, [.int 0, .ref q0, .int 0, .int 0, .ref q1, .ref q2, .ref q3, .ref q4, .int 0, .null, .null, .null, .null])), (q0, .inl (cI, 8, .inl (fun _ => 0))), (q1, .inl (cI, 140, .inl (fun _ => 0))), (q2, .inl (cI, 132, .inl (fun _ => 0))), (q3, .inl (cI, 4, .inl (fun _ => 0))), (q4, .inl (cI, 256, .inl (fun _ => 0))), (q5, .inl (cI, 128, .inl (preT 86)))] H := hP
  have hD : va_D A [(h0, .inr (1, [.int 0, .ref q0, .int 0, .int 0, .ref q1, .ref q2, .ref q3, .ref q4, .int 0, .null, .null, .null, .null])), (q0, .inl (cI, 8, .inl (fun _ => 0))), (q1, .inl (cI, 140, .inl (fun _ => 0))), (q2, .inl (cI, 132, .inl (fun _ => 0))), (q3, .inl (cI, 4, .inl (fun _ => 0))), (q4, .inl (cI, 256, .inl (fun _ => 0))), (q5, .inl (cI, 128, .inl (preT 86)))] := hD
  refine lv_dup hx hb dX1_init_529 rfl ?_
  refine lv_bipush (v := nI 86) hx hb dX1_init_530 (by decide) ?_
  refine lv_bipush (v := nI 9) hx hb dX1_init_532 (by decide) ?_
  refine wk_iast hx hb hK hP hD hS 6 0 rfl rfl (k := 86) (x := nI 9) (by decide) (by decide) dX1_init_534 (fun H locs hP hD hS => ?_)
  simp only [List.set] at hP hD
  rw [preT_s 86 (show TB 86 = nI 9 from by decide +kernel)] at hP hD
  have hP : va_P D vwCl [(h0, .inr (1, [.int 0, .ref q0, .int 0, .int 0, .ref q1, .ref q2, .ref q3, .ref q4, .int 0, .null, .null, .null, .null])), (q0, .inl (cI, 8, .inl (fun _ => 0))), (q1, .inl (cI, 140, .inl (fun _ => 0))), (q2, .inl (cI, 132, .inl (fun _ => 0))), (q3, .inl (cI, 4, .inl (fun _ => 0))), (q4, .inl (cI, 256, .inl (fun _ => 0))), (q5, .inl (cI, 128, .inl (preT 87)))] H := hP
  have hD : va_D A [(h0, .inr (1, [.int 0, .ref q0, .int 0, .int 0, .ref q1, .ref q2, .ref q3, .ref q4, .int 0, .null, .null, .null, .null])), (q0, .inl (cI, 8, .inl (fun _ => 0))), (q1, .inl (cI, 140, .inl (fun _ => 0))), (q2, .inl (cI, 132, .inl (fun _ => 0))), (q3, .inl (cI, 4, .inl (fun _ => 0))), (q4, .inl (cI, 256, .inl (fun _ => 0))), (q5, .inl (cI, 128, .inl (preT 87)))] := hD
  refine lv_dup hx hb dX1_init_535 rfl ?_
  refine lv_bipush (v := nI 87) hx hb dX1_init_536 (by decide) ?_
  refine lv_bipush (v := nI 12) hx hb dX1_init_538 (by decide) ?_
  refine wk_iast hx hb hK hP hD hS 6 0 rfl rfl (k := 87) (x := nI 12) (by decide) (by decide) dX1_init_540 (fun H locs hP hD hS => ?_)
  simp only [List.set] at hP hD
  rw [preT_s 87 (show TB 87 = nI 12 from by decide +kernel)] at hP hD
  have hP : va_P D vwCl [(h0, .inr (1, [.int 0, .ref q0, .int 0, .int 0, .ref q1, .ref q2, .ref q3, .ref q4, .int 0, .null, .null, .null, .null])), (q0, .inl (cI, 8, .inl (fun _ => 0))), (q1, .inl (cI, 140, .inl (fun _ => 0))), (q2, .inl (cI, 132, .inl (fun _ => 0))), (q3, .inl (cI, 4, .inl (fun _ => 0))), (q4, .inl (cI, 256, .inl (fun _ => 0))), (q5, .inl (cI, 128, .inl (preT 88)))] H := hP
  have hD : va_D A [(h0, .inr (1, [.int 0, .ref q0, .int 0, .int 0, .ref q1, .ref q2, .ref q3, .ref q4, .int 0, .null, .null, .null, .null])), (q0, .inl (cI, 8, .inl (fun _ => 0))), (q1, .inl (cI, 140, .inl (fun _ => 0))), (q2, .inl (cI, 132, .inl (fun _ => 0))), (q3, .inl (cI, 4, .inl (fun _ => 0))), (q4, .inl (cI, 256, .inl (fun _ => 0))), (q5, .inl (cI, 128, .inl (preT 88)))] := hD
  refine lv_dup hx hb dX1_init_541 rfl ?_
  refine lv_bipush (v := nI 88) hx hb dX1_init_542 (by decide) ?_
  refine lv_iconst (v := nI 0) hx hb dX1_init_544 (by decide) ?_
  refine wk_iast hx hb hK hP hD hS 6 0 rfl rfl (k := 88) (x := nI 0) (by decide) (by decide) dX1_init_545 (fun H locs hP hD hS => ?_)
  simp only [List.set] at hP hD
  rw [preT_s 88 (show TB 88 = nI 0 from by decide +kernel)] at hP hD
  have hP : va_P D vwCl [(h0, .inr (1, [.int 0, .ref q0, .int 0, .int 0, .ref q1, .ref q2, .ref q3, .ref q4, .int 0, .null, .null, .null, .null])), (q0, .inl (cI, 8, .inl (fun _ => 0))), (q1, .inl (cI, 140, .inl (fun _ => 0))), (q2, .inl (cI, 132, .inl (fun _ => 0))), (q3, .inl (cI, 4, .inl (fun _ => 0))), (q4, .inl (cI, 256, .inl (fun _ => 0))), (q5, .inl (cI, 128, .inl (preT 89)))] H := hP
  have hD : va_D A [(h0, .inr (1, [.int 0, .ref q0, .int 0, .int 0, .ref q1, .ref q2, .ref q3, .ref q4, .int 0, .null, .null, .null, .null])), (q0, .inl (cI, 8, .inl (fun _ => 0))), (q1, .inl (cI, 140, .inl (fun _ => 0))), (q2, .inl (cI, 132, .inl (fun _ => 0))), (q3, .inl (cI, 4, .inl (fun _ => 0))), (q4, .inl (cI, 256, .inl (fun _ => 0))), (q5, .inl (cI, 128, .inl (preT 89)))] := hD
  refine lv_dup hx hb dX1_init_546 rfl ?_
  refine lv_bipush (v := nI 89) hx hb dX1_init_547 (by decide) ?_
  refine lv_iconst (v := nI 3) hx hb dX1_init_549 (by decide) ?_
  refine wk_iast hx hb hK hP hD hS 6 0 rfl rfl (k := 89) (x := nI 3) (by decide) (by decide) dX1_init_550 (fun H locs hP hD hS => ?_)
  simp only [List.set] at hP hD
  rw [preT_s 89 (show TB 89 = nI 3 from by decide +kernel)] at hP hD
  have hP : va_P D vwCl [(h0, .inr (1, [.int 0, .ref q0, .int 0, .int 0, .ref q1, .ref q2, .ref q3, .ref q4, .int 0, .null, .null, .null, .null])), (q0, .inl (cI, 8, .inl (fun _ => 0))), (q1, .inl (cI, 140, .inl (fun _ => 0))), (q2, .inl (cI, 132, .inl (fun _ => 0))), (q3, .inl (cI, 4, .inl (fun _ => 0))), (q4, .inl (cI, 256, .inl (fun _ => 0))), (q5, .inl (cI, 128, .inl (preT 90)))] H := hP
  have hD : va_D A [(h0, .inr (1, [.int 0, .ref q0, .int 0, .int 0, .ref q1, .ref q2, .ref q3, .ref q4, .int 0, .null, .null, .null, .null])), (q0, .inl (cI, 8, .inl (fun _ => 0))), (q1, .inl (cI, 140, .inl (fun _ => 0))), (q2, .inl (cI, 132, .inl (fun _ => 0))), (q3, .inl (cI, 4, .inl (fun _ => 0))), (q4, .inl (cI, 256, .inl (fun _ => 0))), (q5, .inl (cI, 128, .inl (preT 90)))] := hD
  refine lv_dup hx hb dX1_init_551 rfl ?_
  refine lv_bipush (v := nI 90) hx hb dX1_init_552 (by decide) ?_
  refine lv_bipush (v := nI 14) hx hb dX1_init_554 (by decide) ?_
  refine wk_iast hx hb hK hP hD hS 6 0 rfl rfl (k := 90) (x := nI 14) (by decide) (by decide) dX1_init_556 (fun H locs hP hD hS => ?_)
  simp only [List.set] at hP hD
  rw [preT_s 90 (show TB 90 = nI 14 from by decide +kernel)] at hP hD
  have hP : va_P D vwCl [(h0, .inr (1, [.int 0, .ref q0, .int 0, .int 0, .ref q1, .ref q2, .ref q3, .ref q4, .int 0, .null, .null, .null, .null])), (q0, .inl (cI, 8, .inl (fun _ => 0))), (q1, .inl (cI, 140, .inl (fun _ => 0))), (q2, .inl (cI, 132, .inl (fun _ => 0))), (q3, .inl (cI, 4, .inl (fun _ => 0))), (q4, .inl (cI, 256, .inl (fun _ => 0))), (q5, .inl (cI, 128, .inl (preT 91)))] H := hP
  have hD : va_D A [(h0, .inr (1, [.int 0, .ref q0, .int 0, .int 0, .ref q1, .ref q2, .ref q3, .ref q4, .int 0, .null, .null, .null, .null])), (q0, .inl (cI, 8, .inl (fun _ => 0))), (q1, .inl (cI, 140, .inl (fun _ => 0))), (q2, .inl (cI, 132, .inl (fun _ => 0))), (q3, .inl (cI, 4, .inl (fun _ => 0))), (q4, .inl (cI, 256, .inl (fun _ => 0))), (q5, .inl (cI, 128, .inl (preT 91)))] := hD
  refine lv_dup hx hb dX1_init_557 rfl ?_
  refine lv_bipush (v := nI 91) hx hb dX1_init_558 (by decide) ?_
  refine lv_bipush (v := nI 8) hx hb dX1_init_560 (by decide) ?_
  refine wk_iast hx hb hK hP hD hS 6 0 rfl rfl (k := 91) (x := nI 8) (by decide) (by decide) dX1_init_562 (fun H locs hP hD hS => ?_)
  simp only [List.set] at hP hD
  rw [preT_s 91 (show TB 91 = nI 8 from by decide +kernel)] at hP hD
  have hP : va_P D vwCl [(h0, .inr (1, [.int 0, .ref q0, .int 0, .int 0, .ref q1, .ref q2, .ref q3, .ref q4, .int 0, .null, .null, .null, .null])), (q0, .inl (cI, 8, .inl (fun _ => 0))), (q1, .inl (cI, 140, .inl (fun _ => 0))), (q2, .inl (cI, 132, .inl (fun _ => 0))), (q3, .inl (cI, 4, .inl (fun _ => 0))), (q4, .inl (cI, 256, .inl (fun _ => 0))), (q5, .inl (cI, 128, .inl (preT 92)))] H := hP
  have hD : va_D A [(h0, .inr (1, [.int 0, .ref q0, .int 0, .int 0, .ref q1, .ref q2, .ref q3, .ref q4, .int 0, .null, .null, .null, .null])), (q0, .inl (cI, 8, .inl (fun _ => 0))), (q1, .inl (cI, 140, .inl (fun _ => 0))), (q2, .inl (cI, 132, .inl (fun _ => 0))), (q3, .inl (cI, 4, .inl (fun _ => 0))), (q4, .inl (cI, 256, .inl (fun _ => 0))), (q5, .inl (cI, 128, .inl (preT 92)))] := hD
  refine lv_dup hx hb dX1_init_563 rfl ?_
  refine lv_bipush (v := nI 92) hx hb dX1_init_564 (by decide) ?_
  refine lv_bipush (v := nI 13) hx hb dX1_init_566 (by decide) ?_
  refine wk_iast hx hb hK hP hD hS 6 0 rfl rfl (k := 92) (x := nI 13) (by decide) (by decide) dX1_init_568 (fun H locs hP hD hS => ?_)
  simp only [List.set] at hP hD
  rw [preT_s 92 (show TB 92 = nI 13 from by decide +kernel)] at hP hD
  have hP : va_P D vwCl [(h0, .inr (1, [.int 0, .ref q0, .int 0, .int 0, .ref q1, .ref q2, .ref q3, .ref q4, .int 0, .null, .null, .null, .null])), (q0, .inl (cI, 8, .inl (fun _ => 0))), (q1, .inl (cI, 140, .inl (fun _ => 0))), (q2, .inl (cI, 132, .inl (fun _ => 0))), (q3, .inl (cI, 4, .inl (fun _ => 0))), (q4, .inl (cI, 256, .inl (fun _ => 0))), (q5, .inl (cI, 128, .inl (preT 93)))] H := hP
  have hD : va_D A [(h0, .inr (1, [.int 0, .ref q0, .int 0, .int 0, .ref q1, .ref q2, .ref q3, .ref q4, .int 0, .null, .null, .null, .null])), (q0, .inl (cI, 8, .inl (fun _ => 0))), (q1, .inl (cI, 140, .inl (fun _ => 0))), (q2, .inl (cI, 132, .inl (fun _ => 0))), (q3, .inl (cI, 4, .inl (fun _ => 0))), (q4, .inl (cI, 256, .inl (fun _ => 0))), (q5, .inl (cI, 128, .inl (preT 93)))] := hD
  refine lv_dup hx hb dX1_init_569 rfl ?_
  refine lv_bipush (v := nI 93) hx hb dX1_init_570 (by decide) ?_
  refine lv_bipush (v := nI 6) hx hb dX1_init_572 (by decide) ?_
  refine wk_iast hx hb hK hP hD hS 6 0 rfl rfl (k := 93) (x := nI 6) (by decide) (by decide) dX1_init_574 (fun H locs hP hD hS => ?_)
  simp only [List.set] at hP hD
  rw [preT_s 93 (show TB 93 = nI 6 from by decide +kernel)] at hP hD
  have hP : va_P D vwCl [(h0, .inr (1, [.int 0, .ref q0, .int 0, .int 0, .ref q1, .ref q2, .ref q3, .ref q4, .int 0, .null, .null, .null, .null])), (q0, .inl (cI, 8, .inl (fun _ => 0))), (q1, .inl (cI, 140, .inl (fun _ => 0))), (q2, .inl (cI, 132, .inl (fun _ => 0))), (q3, .inl (cI, 4, .inl (fun _ => 0))), (q4, .inl (cI, 256, .inl (fun _ => 0))), (q5, .inl (cI, 128, .inl (preT 94)))] H := hP
  have hD : va_D A [(h0, .inr (1, [.int 0, .ref q0, .int 0, .int 0, .ref q1, .ref q2, .ref q3, .ref q4, .int 0, .null, .null, .null, .null])), (q0, .inl (cI, 8, .inl (fun _ => 0))), (q1, .inl (cI, 140, .inl (fun _ => 0))), (q2, .inl (cI, 132, .inl (fun _ => 0))), (q3, .inl (cI, 4, .inl (fun _ => 0))), (q4, .inl (cI, 256, .inl (fun _ => 0))), (q5, .inl (cI, 128, .inl (preT 94)))] := hD
  refine lv_dup hx hb dX1_init_575 rfl ?_
  refine lv_bipush (v := nI 94) hx hb dX1_init_576 (by decide) ?_
  refine lv_bipush (v := nI 7) hx hb dX1_init_578 (by decide) ?_
  refine wk_iast hx hb hK hP hD hS 6 0 rfl rfl (k := 94) (x := nI 7) (by decide) (by decide) dX1_init_580 (fun H locs hP hD hS => ?_)
  simp only [List.set] at hP hD
  rw [preT_s 94 (show TB 94 = nI 7 from by decide +kernel)] at hP hD
  have hP : va_P D vwCl [(h0, .inr (1, [.int 0, .ref q0, .int 0, .int 0, .ref q1, .ref q2, .ref q3, .ref q4, .int 0, .null, .null, .null, .null])), (q0, .inl (cI, 8, .inl (fun _ => 0))), (q1, .inl (cI, 140, .inl (fun _ => 0))), (q2, .inl (cI, 132, .inl (fun _ => 0))), (q3, .inl (cI, 4, .inl (fun _ => 0))), (q4, .inl (cI, 256, .inl (fun _ => 0))), (q5, .inl (cI, 128, .inl (preT 95)))] H := hP
  have hD : va_D A [(h0, .inr (1, [.int 0, .ref q0, .int 0, .int 0, .ref q1, .ref q2, .ref q3, .ref q4, .int 0, .null, .null, .null, .null])), (q0, .inl (cI, 8, .inl (fun _ => 0))), (q1, .inl (cI, 140, .inl (fun _ => 0))), (q2, .inl (cI, 132, .inl (fun _ => 0))), (q3, .inl (cI, 4, .inl (fun _ => 0))), (q4, .inl (cI, 256, .inl (fun _ => 0))), (q5, .inl (cI, 128, .inl (preT 95)))] := hD
  refine lv_dup hx hb dX1_init_581 rfl ?_
  refine lv_bipush (v := nI 95) hx hb dX1_init_582 (by decide) ?_
  refine lv_iconst (v := nI 1) hx hb dX1_init_584 (by decide) ?_
  refine wk_iast hx hb hK hP hD hS 6 0 rfl rfl (k := 95) (x := nI 1) (by decide) (by decide) dX1_init_585 (fun H locs hP hD hS => ?_)
  simp only [List.set] at hP hD
  rw [preT_s 95 (show TB 95 = nI 1 from by decide +kernel)] at hP hD
  have hP : va_P D vwCl [(h0, .inr (1, [.int 0, .ref q0, .int 0, .int 0, .ref q1, .ref q2, .ref q3, .ref q4, .int 0, .null, .null, .null, .null])), (q0, .inl (cI, 8, .inl (fun _ => 0))), (q1, .inl (cI, 140, .inl (fun _ => 0))), (q2, .inl (cI, 132, .inl (fun _ => 0))), (q3, .inl (cI, 4, .inl (fun _ => 0))), (q4, .inl (cI, 256, .inl (fun _ => 0))), (q5, .inl (cI, 128, .inl (preT 96)))] H := hP
  have hD : va_D A [(h0, .inr (1, [.int 0, .ref q0, .int 0, .int 0, .ref q1, .ref q2, .ref q3, .ref q4, .int 0, .null, .null, .null, .null])), (q0, .inl (cI, 8, .inl (fun _ => 0))), (q1, .inl (cI, 140, .inl (fun _ => 0))), (q2, .inl (cI, 132, .inl (fun _ => 0))), (q3, .inl (cI, 4, .inl (fun _ => 0))), (q4, .inl (cI, 256, .inl (fun _ => 0))), (q5, .inl (cI, 128, .inl (preT 96)))] := hD
  refine lv_dup hx hb dX1_init_586 rfl ?_
  refine lv_bipush (v := nI 96) hx hb dX1_init_587 (by decide) ?_
  refine lv_bipush (v := nI 7) hx hb dX1_init_589 (by decide) ?_
  refine wk_iast hx hb hK hP hD hS 6 0 rfl rfl (k := 96) (x := nI 7) (by decide) (by decide) dX1_init_591 (fun H locs hP hD hS => ?_)
  simp only [List.set] at hP hD
  rw [preT_s 96 (show TB 96 = nI 7 from by decide +kernel)] at hP hD
  have hP : va_P D vwCl [(h0, .inr (1, [.int 0, .ref q0, .int 0, .int 0, .ref q1, .ref q2, .ref q3, .ref q4, .int 0, .null, .null, .null, .null])), (q0, .inl (cI, 8, .inl (fun _ => 0))), (q1, .inl (cI, 140, .inl (fun _ => 0))), (q2, .inl (cI, 132, .inl (fun _ => 0))), (q3, .inl (cI, 4, .inl (fun _ => 0))), (q4, .inl (cI, 256, .inl (fun _ => 0))), (q5, .inl (cI, 128, .inl (preT 97)))] H := hP
  have hD : va_D A [(h0, .inr (1, [.int 0, .ref q0, .int 0, .int 0, .ref q1, .ref q2, .ref q3, .ref q4, .int 0, .null, .null, .null, .null])), (q0, .inl (cI, 8, .inl (fun _ => 0))), (q1, .inl (cI, 140, .inl (fun _ => 0))), (q2, .inl (cI, 132, .inl (fun _ => 0))), (q3, .inl (cI, 4, .inl (fun _ => 0))), (q4, .inl (cI, 256, .inl (fun _ => 0))), (q5, .inl (cI, 128, .inl (preT 97)))] := hD
  refine lv_dup hx hb dX1_init_592 rfl ?_
  refine lv_bipush (v := nI 97) hx hb dX1_init_593 (by decide) ?_
  refine lv_iconst (v := nI 2) hx hb dX1_init_595 (by decide) ?_
  refine wk_iast hx hb hK hP hD hS 6 0 rfl rfl (k := 97) (x := nI 2) (by decide) (by decide) dX1_init_596 (fun H locs hP hD hS => ?_)
  simp only [List.set] at hP hD
  rw [preT_s 97 (show TB 97 = nI 2 from by decide +kernel)] at hP hD
  have hP : va_P D vwCl [(h0, .inr (1, [.int 0, .ref q0, .int 0, .int 0, .ref q1, .ref q2, .ref q3, .ref q4, .int 0, .null, .null, .null, .null])), (q0, .inl (cI, 8, .inl (fun _ => 0))), (q1, .inl (cI, 140, .inl (fun _ => 0))), (q2, .inl (cI, 132, .inl (fun _ => 0))), (q3, .inl (cI, 4, .inl (fun _ => 0))), (q4, .inl (cI, 256, .inl (fun _ => 0))), (q5, .inl (cI, 128, .inl (preT 98)))] H := hP
  have hD : va_D A [(h0, .inr (1, [.int 0, .ref q0, .int 0, .int 0, .ref q1, .ref q2, .ref q3, .ref q4, .int 0, .null, .null, .null, .null])), (q0, .inl (cI, 8, .inl (fun _ => 0))), (q1, .inl (cI, 140, .inl (fun _ => 0))), (q2, .inl (cI, 132, .inl (fun _ => 0))), (q3, .inl (cI, 4, .inl (fun _ => 0))), (q4, .inl (cI, 256, .inl (fun _ => 0))), (q5, .inl (cI, 128, .inl (preT 98)))] := hD
  refine lv_dup hx hb dX1_init_597 rfl ?_
  refine lv_bipush (v := nI 98) hx hb dX1_init_598 (by decide) ?_
  refine lv_bipush (v := nI 12) hx hb dX1_init_600 (by decide) ?_
  refine wk_iast hx hb hK hP hD hS 6 0 rfl rfl (k := 98) (x := nI 12) (by decide) (by decide) dX1_init_602 (fun H locs hP hD hS => ?_)
  simp only [List.set] at hP hD
  rw [preT_s 98 (show TB 98 = nI 12 from by decide +kernel)] at hP hD
  have hP : va_P D vwCl [(h0, .inr (1, [.int 0, .ref q0, .int 0, .int 0, .ref q1, .ref q2, .ref q3, .ref q4, .int 0, .null, .null, .null, .null])), (q0, .inl (cI, 8, .inl (fun _ => 0))), (q1, .inl (cI, 140, .inl (fun _ => 0))), (q2, .inl (cI, 132, .inl (fun _ => 0))), (q3, .inl (cI, 4, .inl (fun _ => 0))), (q4, .inl (cI, 256, .inl (fun _ => 0))), (q5, .inl (cI, 128, .inl (preT 99)))] H := hP
  have hD : va_D A [(h0, .inr (1, [.int 0, .ref q0, .int 0, .int 0, .ref q1, .ref q2, .ref q3, .ref q4, .int 0, .null, .null, .null, .null])), (q0, .inl (cI, 8, .inl (fun _ => 0))), (q1, .inl (cI, 140, .inl (fun _ => 0))), (q2, .inl (cI, 132, .inl (fun _ => 0))), (q3, .inl (cI, 4, .inl (fun _ => 0))), (q4, .inl (cI, 256, .inl (fun _ => 0))), (q5, .inl (cI, 128, .inl (preT 99)))] := hD
  refine lv_dup hx hb dX1_init_603 rfl ?_
  refine lv_bipush (v := nI 99) hx hb dX1_init_604 (by decide) ?_
  refine lv_iconst (v := nI 5) hx hb dX1_init_606 (by decide) ?_
  refine wk_iast hx hb hK hP hD hS 6 0 rfl rfl (k := 99) (x := nI 5) (by decide) (by decide) dX1_init_607 (fun H locs hP hD hS => ?_)
  simp only [List.set] at hP hD
  rw [preT_s 99 (show TB 99 = nI 5 from by decide +kernel)] at hP hD
  have hP : va_P D vwCl [(h0, .inr (1, [.int 0, .ref q0, .int 0, .int 0, .ref q1, .ref q2, .ref q3, .ref q4, .int 0, .null, .null, .null, .null])), (q0, .inl (cI, 8, .inl (fun _ => 0))), (q1, .inl (cI, 140, .inl (fun _ => 0))), (q2, .inl (cI, 132, .inl (fun _ => 0))), (q3, .inl (cI, 4, .inl (fun _ => 0))), (q4, .inl (cI, 256, .inl (fun _ => 0))), (q5, .inl (cI, 128, .inl (preT 100)))] H := hP
  have hD : va_D A [(h0, .inr (1, [.int 0, .ref q0, .int 0, .int 0, .ref q1, .ref q2, .ref q3, .ref q4, .int 0, .null, .null, .null, .null])), (q0, .inl (cI, 8, .inl (fun _ => 0))), (q1, .inl (cI, 140, .inl (fun _ => 0))), (q2, .inl (cI, 132, .inl (fun _ => 0))), (q3, .inl (cI, 4, .inl (fun _ => 0))), (q4, .inl (cI, 256, .inl (fun _ => 0))), (q5, .inl (cI, 128, .inl (preT 100)))] := hD
  refine lv_dup hx hb dX1_init_608 rfl ?_
  refine lv_bipush (v := nI 100) hx hb dX1_init_609 (by decide) ?_
  refine lv_bipush (v := nI 8) hx hb dX1_init_611 (by decide) ?_
  refine wk_iast hx hb hK hP hD hS 6 0 rfl rfl (k := 100) (x := nI 8) (by decide) (by decide) dX1_init_613 (fun H locs hP hD hS => ?_)
  simp only [List.set] at hP hD
  rw [preT_s 100 (show TB 100 = nI 8 from by decide +kernel)] at hP hD
  have hP : va_P D vwCl [(h0, .inr (1, [.int 0, .ref q0, .int 0, .int 0, .ref q1, .ref q2, .ref q3, .ref q4, .int 0, .null, .null, .null, .null])), (q0, .inl (cI, 8, .inl (fun _ => 0))), (q1, .inl (cI, 140, .inl (fun _ => 0))), (q2, .inl (cI, 132, .inl (fun _ => 0))), (q3, .inl (cI, 4, .inl (fun _ => 0))), (q4, .inl (cI, 256, .inl (fun _ => 0))), (q5, .inl (cI, 128, .inl (preT 101)))] H := hP
  have hD : va_D A [(h0, .inr (1, [.int 0, .ref q0, .int 0, .int 0, .ref q1, .ref q2, .ref q3, .ref q4, .int 0, .null, .null, .null, .null])), (q0, .inl (cI, 8, .inl (fun _ => 0))), (q1, .inl (cI, 140, .inl (fun _ => 0))), (q2, .inl (cI, 132, .inl (fun _ => 0))), (q3, .inl (cI, 4, .inl (fun _ => 0))), (q4, .inl (cI, 256, .inl (fun _ => 0))), (q5, .inl (cI, 128, .inl (preT 101)))] := hD
  refine lv_dup hx hb dX1_init_614 rfl ?_
  refine lv_bipush (v := nI 101) hx hb dX1_init_615 (by decide) ?_
  refine lv_iconst (v := nI 4) hx hb dX1_init_617 (by decide) ?_
  refine wk_iast hx hb hK hP hD hS 6 0 rfl rfl (k := 101) (x := nI 4) (by decide) (by decide) dX1_init_618 (fun H locs hP hD hS => ?_)
  simp only [List.set] at hP hD
  rw [preT_s 101 (show TB 101 = nI 4 from by decide +kernel)] at hP hD
  have hP : va_P D vwCl [(h0, .inr (1, [.int 0, .ref q0, .int 0, .int 0, .ref q1, .ref q2, .ref q3, .ref q4, .int 0, .null, .null, .null, .null])), (q0, .inl (cI, 8, .inl (fun _ => 0))), (q1, .inl (cI, 140, .inl (fun _ => 0))), (q2, .inl (cI, 132, .inl (fun _ => 0))), (q3, .inl (cI, 4, .inl (fun _ => 0))), (q4, .inl (cI, 256, .inl (fun _ => 0))), (q5, .inl (cI, 128, .inl (preT 102)))] H := hP
  have hD : va_D A [(h0, .inr (1, [.int 0, .ref q0, .int 0, .int 0, .ref q1, .ref q2, .ref q3, .ref q4, .int 0, .null, .null, .null, .null])), (q0, .inl (cI, 8, .inl (fun _ => 0))), (q1, .inl (cI, 140, .inl (fun _ => 0))), (q2, .inl (cI, 132, .inl (fun _ => 0))), (q3, .inl (cI, 4, .inl (fun _ => 0))), (q4, .inl (cI, 256, .inl (fun _ => 0))), (q5, .inl (cI, 128, .inl (preT 102)))] := hD
  refine lv_dup hx hb dX1_init_619 rfl ?_
  refine lv_bipush (v := nI 102) hx hb dX1_init_620 (by decide) ?_
  refine lv_bipush (v := nI 6) hx hb dX1_init_622 (by decide) ?_
  refine wk_iast hx hb hK hP hD hS 6 0 rfl rfl (k := 102) (x := nI 6) (by decide) (by decide) dX1_init_624 (fun H locs hP hD hS => ?_)
  simp only [List.set] at hP hD
  rw [preT_s 102 (show TB 102 = nI 6 from by decide +kernel)] at hP hD
  have hP : va_P D vwCl [(h0, .inr (1, [.int 0, .ref q0, .int 0, .int 0, .ref q1, .ref q2, .ref q3, .ref q4, .int 0, .null, .null, .null, .null])), (q0, .inl (cI, 8, .inl (fun _ => 0))), (q1, .inl (cI, 140, .inl (fun _ => 0))), (q2, .inl (cI, 132, .inl (fun _ => 0))), (q3, .inl (cI, 4, .inl (fun _ => 0))), (q4, .inl (cI, 256, .inl (fun _ => 0))), (q5, .inl (cI, 128, .inl (preT 103)))] H := hP
  have hD : va_D A [(h0, .inr (1, [.int 0, .ref q0, .int 0, .int 0, .ref q1, .ref q2, .ref q3, .ref q4, .int 0, .null, .null, .null, .null])), (q0, .inl (cI, 8, .inl (fun _ => 0))), (q1, .inl (cI, 140, .inl (fun _ => 0))), (q2, .inl (cI, 132, .inl (fun _ => 0))), (q3, .inl (cI, 4, .inl (fun _ => 0))), (q4, .inl (cI, 256, .inl (fun _ => 0))), (q5, .inl (cI, 128, .inl (preT 103)))] := hD
  refine lv_dup hx hb dX1_init_625 rfl ?_
  refine lv_bipush (v := nI 103) hx hb dX1_init_626 (by decide) ?_
  refine lv_bipush (v := nI 11) hx hb dX1_init_628 (by decide) ?_
  refine wk_iast hx hb hK hP hD hS 6 0 rfl rfl (k := 103) (x := nI 11) (by decide) (by decide) dX1_init_630 (fun H locs hP hD hS => ?_)
  simp only [List.set] at hP hD
  rw [preT_s 103 (show TB 103 = nI 11 from by decide +kernel)] at hP hD
  have hP : va_P D vwCl [(h0, .inr (1, [.int 0, .ref q0, .int 0, .int 0, .ref q1, .ref q2, .ref q3, .ref q4, .int 0, .null, .null, .null, .null])), (q0, .inl (cI, 8, .inl (fun _ => 0))), (q1, .inl (cI, 140, .inl (fun _ => 0))), (q2, .inl (cI, 132, .inl (fun _ => 0))), (q3, .inl (cI, 4, .inl (fun _ => 0))), (q4, .inl (cI, 256, .inl (fun _ => 0))), (q5, .inl (cI, 128, .inl (preT 104)))] H := hP
  have hD : va_D A [(h0, .inr (1, [.int 0, .ref q0, .int 0, .int 0, .ref q1, .ref q2, .ref q3, .ref q4, .int 0, .null, .null, .null, .null])), (q0, .inl (cI, 8, .inl (fun _ => 0))), (q1, .inl (cI, 140, .inl (fun _ => 0))), (q2, .inl (cI, 132, .inl (fun _ => 0))), (q3, .inl (cI, 4, .inl (fun _ => 0))), (q4, .inl (cI, 256, .inl (fun _ => 0))), (q5, .inl (cI, 128, .inl (preT 104)))] := hD
  refine lv_dup hx hb dX1_init_631 rfl ?_
  refine lv_bipush (v := nI 104) hx hb dX1_init_632 (by decide) ?_
  refine lv_bipush (v := nI 14) hx hb dX1_init_634 (by decide) ?_
  refine wk_iast hx hb hK hP hD hS 6 0 rfl rfl (k := 104) (x := nI 14) (by decide) (by decide) dX1_init_636 (fun H locs hP hD hS => ?_)
  simp only [List.set] at hP hD
  rw [preT_s 104 (show TB 104 = nI 14 from by decide +kernel)] at hP hD
  have hP : va_P D vwCl [(h0, .inr (1, [.int 0, .ref q0, .int 0, .int 0, .ref q1, .ref q2, .ref q3, .ref q4, .int 0, .null, .null, .null, .null])), (q0, .inl (cI, 8, .inl (fun _ => 0))), (q1, .inl (cI, 140, .inl (fun _ => 0))), (q2, .inl (cI, 132, .inl (fun _ => 0))), (q3, .inl (cI, 4, .inl (fun _ => 0))), (q4, .inl (cI, 256, .inl (fun _ => 0))), (q5, .inl (cI, 128, .inl (preT 105)))] H := hP
  have hD : va_D A [(h0, .inr (1, [.int 0, .ref q0, .int 0, .int 0, .ref q1, .ref q2, .ref q3, .ref q4, .int 0, .null, .null, .null, .null])), (q0, .inl (cI, 8, .inl (fun _ => 0))), (q1, .inl (cI, 140, .inl (fun _ => 0))), (q2, .inl (cI, 132, .inl (fun _ => 0))), (q3, .inl (cI, 4, .inl (fun _ => 0))), (q4, .inl (cI, 256, .inl (fun _ => 0))), (q5, .inl (cI, 128, .inl (preT 105)))] := hD
  refine lv_dup hx hb dX1_init_637 rfl ?_
  refine lv_bipush (v := nI 105) hx hb dX1_init_638 (by decide) ?_
  refine lv_bipush (v := nI 9) hx hb dX1_init_640 (by decide) ?_
  refine wk_iast hx hb hK hP hD hS 6 0 rfl rfl (k := 105) (x := nI 9) (by decide) (by decide) dX1_init_642 (fun H locs hP hD hS => ?_)
  simp only [List.set] at hP hD
  rw [preT_s 105 (show TB 105 = nI 9 from by decide +kernel)] at hP hD
  have hP : va_P D vwCl [(h0, .inr (1, [.int 0, .ref q0, .int 0, .int 0, .ref q1, .ref q2, .ref q3, .ref q4, .int 0, .null, .null, .null, .null])), (q0, .inl (cI, 8, .inl (fun _ => 0))), (q1, .inl (cI, 140, .inl (fun _ => 0))), (q2, .inl (cI, 132, .inl (fun _ => 0))), (q3, .inl (cI, 4, .inl (fun _ => 0))), (q4, .inl (cI, 256, .inl (fun _ => 0))), (q5, .inl (cI, 128, .inl (preT 106)))] H := hP
  have hD : va_D A [(h0, .inr (1, [.int 0, .ref q0, .int 0, .int 0, .ref q1, .ref q2, .ref q3, .ref q4, .int 0, .null, .null, .null, .null])), (q0, .inl (cI, 8, .inl (fun _ => 0))), (q1, .inl (cI, 140, .inl (fun _ => 0))), (q2, .inl (cI, 132, .inl (fun _ => 0))), (q3, .inl (cI, 4, .inl (fun _ => 0))), (q4, .inl (cI, 256, .inl (fun _ => 0))), (q5, .inl (cI, 128, .inl (preT 106)))] := hD
  refine lv_dup hx hb dX1_init_643 rfl ?_
  refine lv_bipush (v := nI 106) hx hb dX1_init_644 (by decide) ?_
  refine lv_iconst (v := nI 1) hx hb dX1_init_646 (by decide) ?_
  refine wk_iast hx hb hK hP hD hS 6 0 rfl rfl (k := 106) (x := nI 1) (by decide) (by decide) dX1_init_647 (fun H locs hP hD hS => ?_)
  simp only [List.set] at hP hD
  rw [preT_s 106 (show TB 106 = nI 1 from by decide +kernel)] at hP hD
  have hP : va_P D vwCl [(h0, .inr (1, [.int 0, .ref q0, .int 0, .int 0, .ref q1, .ref q2, .ref q3, .ref q4, .int 0, .null, .null, .null, .null])), (q0, .inl (cI, 8, .inl (fun _ => 0))), (q1, .inl (cI, 140, .inl (fun _ => 0))), (q2, .inl (cI, 132, .inl (fun _ => 0))), (q3, .inl (cI, 4, .inl (fun _ => 0))), (q4, .inl (cI, 256, .inl (fun _ => 0))), (q5, .inl (cI, 128, .inl (preT 107)))] H := hP
  have hD : va_D A [(h0, .inr (1, [.int 0, .ref q0, .int 0, .int 0, .ref q1, .ref q2, .ref q3, .ref q4, .int 0, .null, .null, .null, .null])), (q0, .inl (cI, 8, .inl (fun _ => 0))), (q1, .inl (cI, 140, .inl (fun _ => 0))), (q2, .inl (cI, 132, .inl (fun _ => 0))), (q3, .inl (cI, 4, .inl (fun _ => 0))), (q4, .inl (cI, 256, .inl (fun _ => 0))), (q5, .inl (cI, 128, .inl (preT 107)))] := hD
  refine lv_dup hx hb dX1_init_648 rfl ?_
  refine lv_bipush (v := nI 107) hx hb dX1_init_649 (by decide) ?_
  refine lv_bipush (v := nI 15) hx hb dX1_init_651 (by decide) ?_
  refine wk_iast hx hb hK hP hD hS 6 0 rfl rfl (k := 107) (x := nI 15) (by decide) (by decide) dX1_init_653 (fun H locs hP hD hS => ?_)
  simp only [List.set] at hP hD
  rw [preT_s 107 (show TB 107 = nI 15 from by decide +kernel)] at hP hD
  have hP : va_P D vwCl [(h0, .inr (1, [.int 0, .ref q0, .int 0, .int 0, .ref q1, .ref q2, .ref q3, .ref q4, .int 0, .null, .null, .null, .null])), (q0, .inl (cI, 8, .inl (fun _ => 0))), (q1, .inl (cI, 140, .inl (fun _ => 0))), (q2, .inl (cI, 132, .inl (fun _ => 0))), (q3, .inl (cI, 4, .inl (fun _ => 0))), (q4, .inl (cI, 256, .inl (fun _ => 0))), (q5, .inl (cI, 128, .inl (preT 108)))] H := hP
  have hD : va_D A [(h0, .inr (1, [.int 0, .ref q0, .int 0, .int 0, .ref q1, .ref q2, .ref q3, .ref q4, .int 0, .null, .null, .null, .null])), (q0, .inl (cI, 8, .inl (fun _ => 0))), (q1, .inl (cI, 140, .inl (fun _ => 0))), (q2, .inl (cI, 132, .inl (fun _ => 0))), (q3, .inl (cI, 4, .inl (fun _ => 0))), (q4, .inl (cI, 256, .inl (fun _ => 0))), (q5, .inl (cI, 128, .inl (preT 108)))] := hD
  refine lv_dup hx hb dX1_init_654 rfl ?_
  refine lv_bipush (v := nI 108) hx hb dX1_init_655 (by decide) ?_
  refine lv_bipush (v := nI 13) hx hb dX1_init_657 (by decide) ?_
  refine wk_iast hx hb hK hP hD hS 6 0 rfl rfl (k := 108) (x := nI 13) (by decide) (by decide) dX1_init_659 (fun H locs hP hD hS => ?_)
  simp only [List.set] at hP hD
  rw [preT_s 108 (show TB 108 = nI 13 from by decide +kernel)] at hP hD
  have hP : va_P D vwCl [(h0, .inr (1, [.int 0, .ref q0, .int 0, .int 0, .ref q1, .ref q2, .ref q3, .ref q4, .int 0, .null, .null, .null, .null])), (q0, .inl (cI, 8, .inl (fun _ => 0))), (q1, .inl (cI, 140, .inl (fun _ => 0))), (q2, .inl (cI, 132, .inl (fun _ => 0))), (q3, .inl (cI, 4, .inl (fun _ => 0))), (q4, .inl (cI, 256, .inl (fun _ => 0))), (q5, .inl (cI, 128, .inl (preT 109)))] H := hP
  have hD : va_D A [(h0, .inr (1, [.int 0, .ref q0, .int 0, .int 0, .ref q1, .ref q2, .ref q3, .ref q4, .int 0, .null, .null, .null, .null])), (q0, .inl (cI, 8, .inl (fun _ => 0))), (q1, .inl (cI, 140, .inl (fun _ => 0))), (q2, .inl (cI, 132, .inl (fun _ => 0))), (q3, .inl (cI, 4, .inl (fun _ => 0))), (q4, .inl (cI, 256, .inl (fun _ => 0))), (q5, .inl (cI, 128, .inl (preT 109)))] := hD
  refine lv_dup hx hb dX1_init_660 rfl ?_
  refine lv_bipush (v := nI 109) hx hb dX1_init_661 (by decide) ?_
  refine lv_iconst (v := nI 3) hx hb dX1_init_663 (by decide) ?_
  refine wk_iast hx hb hK hP hD hS 6 0 rfl rfl (k := 109) (x := nI 3) (by decide) (by decide) dX1_init_664 (fun H locs hP hD hS => ?_)
  simp only [List.set] at hP hD
  rw [preT_s 109 (show TB 109 = nI 3 from by decide +kernel)] at hP hD
  have hP : va_P D vwCl [(h0, .inr (1, [.int 0, .ref q0, .int 0, .int 0, .ref q1, .ref q2, .ref q3, .ref q4, .int 0, .null, .null, .null, .null])), (q0, .inl (cI, 8, .inl (fun _ => 0))), (q1, .inl (cI, 140, .inl (fun _ => 0))), (q2, .inl (cI, 132, .inl (fun _ => 0))), (q3, .inl (cI, 4, .inl (fun _ => 0))), (q4, .inl (cI, 256, .inl (fun _ => 0))), (q5, .inl (cI, 128, .inl (preT 110)))] H := hP
  have hD : va_D A [(h0, .inr (1, [.int 0, .ref q0, .int 0, .int 0, .ref q1, .ref q2, .ref q3, .ref q4, .int 0, .null, .null, .null, .null])), (q0, .inl (cI, 8, .inl (fun _ => 0))), (q1, .inl (cI, 140, .inl (fun _ => 0))), (q2, .inl (cI, 132, .inl (fun _ => 0))), (q3, .inl (cI, 4, .inl (fun _ => 0))), (q4, .inl (cI, 256, .inl (fun _ => 0))), (q5, .inl (cI, 128, .inl (preT 110)))] := hD
  refine lv_dup hx hb dX1_init_665 rfl ?_
  refine lv_bipush (v := nI 110) hx hb dX1_init_666 (by decide) ?_
  refine lv_bipush (v := nI 10) hx hb dX1_init_668 (by decide) ?_
  refine wk_iast hx hb hK hP hD hS 6 0 rfl rfl (k := 110) (x := nI 10) (by decide) (by decide) dX1_init_670 (fun H locs hP hD hS => ?_)
  simp only [List.set] at hP hD
  rw [preT_s 110 (show TB 110 = nI 10 from by decide +kernel)] at hP hD
  have hP : va_P D vwCl [(h0, .inr (1, [.int 0, .ref q0, .int 0, .int 0, .ref q1, .ref q2, .ref q3, .ref q4, .int 0, .null, .null, .null, .null])), (q0, .inl (cI, 8, .inl (fun _ => 0))), (q1, .inl (cI, 140, .inl (fun _ => 0))), (q2, .inl (cI, 132, .inl (fun _ => 0))), (q3, .inl (cI, 4, .inl (fun _ => 0))), (q4, .inl (cI, 256, .inl (fun _ => 0))), (q5, .inl (cI, 128, .inl (preT 111)))] H := hP
  have hD : va_D A [(h0, .inr (1, [.int 0, .ref q0, .int 0, .int 0, .ref q1, .ref q2, .ref q3, .ref q4, .int 0, .null, .null, .null, .null])), (q0, .inl (cI, 8, .inl (fun _ => 0))), (q1, .inl (cI, 140, .inl (fun _ => 0))), (q2, .inl (cI, 132, .inl (fun _ => 0))), (q3, .inl (cI, 4, .inl (fun _ => 0))), (q4, .inl (cI, 256, .inl (fun _ => 0))), (q5, .inl (cI, 128, .inl (preT 111)))] := hD
  refine lv_dup hx hb dX1_init_671 rfl ?_
  refine lv_bipush (v := nI 111) hx hb dX1_init_672 (by decide) ?_
  refine lv_iconst (v := nI 0) hx hb dX1_init_674 (by decide) ?_
  refine wk_iast hx hb hK hP hD hS 6 0 rfl rfl (k := 111) (x := nI 0) (by decide) (by decide) dX1_init_675 (fun H locs hP hD hS => ?_)
  simp only [List.set] at hP hD
  rw [preT_s 111 (show TB 111 = nI 0 from by decide +kernel)] at hP hD
  have hP : va_P D vwCl [(h0, .inr (1, [.int 0, .ref q0, .int 0, .int 0, .ref q1, .ref q2, .ref q3, .ref q4, .int 0, .null, .null, .null, .null])), (q0, .inl (cI, 8, .inl (fun _ => 0))), (q1, .inl (cI, 140, .inl (fun _ => 0))), (q2, .inl (cI, 132, .inl (fun _ => 0))), (q3, .inl (cI, 4, .inl (fun _ => 0))), (q4, .inl (cI, 256, .inl (fun _ => 0))), (q5, .inl (cI, 128, .inl (preT 112)))] H := hP
  have hD : va_D A [(h0, .inr (1, [.int 0, .ref q0, .int 0, .int 0, .ref q1, .ref q2, .ref q3, .ref q4, .int 0, .null, .null, .null, .null])), (q0, .inl (cI, 8, .inl (fun _ => 0))), (q1, .inl (cI, 140, .inl (fun _ => 0))), (q2, .inl (cI, 132, .inl (fun _ => 0))), (q3, .inl (cI, 4, .inl (fun _ => 0))), (q4, .inl (cI, 256, .inl (fun _ => 0))), (q5, .inl (cI, 128, .inl (preT 112)))] := hD
  refine lv_dup hx hb dX1_init_676 rfl ?_
  refine lv_bipush (v := nI 112) hx hb dX1_init_677 (by decide) ?_
  refine lv_iconst (v := nI 1) hx hb dX1_init_679 (by decide) ?_
  refine wk_iast hx hb hK hP hD hS 6 0 rfl rfl (k := 112) (x := nI 1) (by decide) (by decide) dX1_init_680 (fun H locs hP hD hS => ?_)
  simp only [List.set] at hP hD
  rw [preT_s 112 (show TB 112 = nI 1 from by decide +kernel)] at hP hD
  have hP : va_P D vwCl [(h0, .inr (1, [.int 0, .ref q0, .int 0, .int 0, .ref q1, .ref q2, .ref q3, .ref q4, .int 0, .null, .null, .null, .null])), (q0, .inl (cI, 8, .inl (fun _ => 0))), (q1, .inl (cI, 140, .inl (fun _ => 0))), (q2, .inl (cI, 132, .inl (fun _ => 0))), (q3, .inl (cI, 4, .inl (fun _ => 0))), (q4, .inl (cI, 256, .inl (fun _ => 0))), (q5, .inl (cI, 128, .inl (preT 113)))] H := hP
  have hD : va_D A [(h0, .inr (1, [.int 0, .ref q0, .int 0, .int 0, .ref q1, .ref q2, .ref q3, .ref q4, .int 0, .null, .null, .null, .null])), (q0, .inl (cI, 8, .inl (fun _ => 0))), (q1, .inl (cI, 140, .inl (fun _ => 0))), (q2, .inl (cI, 132, .inl (fun _ => 0))), (q3, .inl (cI, 4, .inl (fun _ => 0))), (q4, .inl (cI, 256, .inl (fun _ => 0))), (q5, .inl (cI, 128, .inl (preT 113)))] := hD
  refine lv_dup hx hb dX1_init_681 rfl ?_
  refine lv_bipush (v := nI 113) hx hb dX1_init_682 (by decide) ?_
  refine lv_bipush (v := nI 13) hx hb dX1_init_684 (by decide) ?_
  refine wk_iast hx hb hK hP hD hS 6 0 rfl rfl (k := 113) (x := nI 13) (by decide) (by decide) dX1_init_686 (fun H locs hP hD hS => ?_)
  simp only [List.set] at hP hD
  rw [preT_s 113 (show TB 113 = nI 13 from by decide +kernel)] at hP hD
  have hP : va_P D vwCl [(h0, .inr (1, [.int 0, .ref q0, .int 0, .int 0, .ref q1, .ref q2, .ref q3, .ref q4, .int 0, .null, .null, .null, .null])), (q0, .inl (cI, 8, .inl (fun _ => 0))), (q1, .inl (cI, 140, .inl (fun _ => 0))), (q2, .inl (cI, 132, .inl (fun _ => 0))), (q3, .inl (cI, 4, .inl (fun _ => 0))), (q4, .inl (cI, 256, .inl (fun _ => 0))), (q5, .inl (cI, 128, .inl (preT 114)))] H := hP
  have hD : va_D A [(h0, .inr (1, [.int 0, .ref q0, .int 0, .int 0, .ref q1, .ref q2, .ref q3, .ref q4, .int 0, .null, .null, .null, .null])), (q0, .inl (cI, 8, .inl (fun _ => 0))), (q1, .inl (cI, 140, .inl (fun _ => 0))), (q2, .inl (cI, 132, .inl (fun _ => 0))), (q3, .inl (cI, 4, .inl (fun _ => 0))), (q4, .inl (cI, 256, .inl (fun _ => 0))), (q5, .inl (cI, 128, .inl (preT 114)))] := hD
  refine lv_dup hx hb dX1_init_687 rfl ?_
  refine lv_bipush (v := nI 114) hx hb dX1_init_688 (by decide) ?_
  refine lv_bipush (v := nI 15) hx hb dX1_init_690 (by decide) ?_
  refine wk_iast hx hb hK hP hD hS 6 0 rfl rfl (k := 114) (x := nI 15) (by decide) (by decide) dX1_init_692 (fun H locs hP hD hS => ?_)
  simp only [List.set] at hP hD
  rw [preT_s 114 (show TB 114 = nI 15 from by decide +kernel)] at hP hD
  have hP : va_P D vwCl [(h0, .inr (1, [.int 0, .ref q0, .int 0, .int 0, .ref q1, .ref q2, .ref q3, .ref q4, .int 0, .null, .null, .null, .null])), (q0, .inl (cI, 8, .inl (fun _ => 0))), (q1, .inl (cI, 140, .inl (fun _ => 0))), (q2, .inl (cI, 132, .inl (fun _ => 0))), (q3, .inl (cI, 4, .inl (fun _ => 0))), (q4, .inl (cI, 256, .inl (fun _ => 0))), (q5, .inl (cI, 128, .inl (preT 115)))] H := hP
  have hD : va_D A [(h0, .inr (1, [.int 0, .ref q0, .int 0, .int 0, .ref q1, .ref q2, .ref q3, .ref q4, .int 0, .null, .null, .null, .null])), (q0, .inl (cI, 8, .inl (fun _ => 0))), (q1, .inl (cI, 140, .inl (fun _ => 0))), (q2, .inl (cI, 132, .inl (fun _ => 0))), (q3, .inl (cI, 4, .inl (fun _ => 0))), (q4, .inl (cI, 256, .inl (fun _ => 0))), (q5, .inl (cI, 128, .inl (preT 115)))] := hD
  refine lv_dup hx hb dX1_init_693 rfl ?_
  refine lv_bipush (v := nI 115) hx hb dX1_init_694 (by decide) ?_
  refine lv_iconst (v := nI 0) hx hb dX1_init_696 (by decide) ?_
  refine wk_iast hx hb hK hP hD hS 6 0 rfl rfl (k := 115) (x := nI 0) (by decide) (by decide) dX1_init_697 (fun H locs hP hD hS => ?_)
  simp only [List.set] at hP hD
  rw [preT_s 115 (show TB 115 = nI 0 from by decide +kernel)] at hP hD
  have hP : va_P D vwCl [(h0, .inr (1, [.int 0, .ref q0, .int 0, .int 0, .ref q1, .ref q2, .ref q3, .ref q4, .int 0, .null, .null, .null, .null])), (q0, .inl (cI, 8, .inl (fun _ => 0))), (q1, .inl (cI, 140, .inl (fun _ => 0))), (q2, .inl (cI, 132, .inl (fun _ => 0))), (q3, .inl (cI, 4, .inl (fun _ => 0))), (q4, .inl (cI, 256, .inl (fun _ => 0))), (q5, .inl (cI, 128, .inl (preT 116)))] H := hP
  have hD : va_D A [(h0, .inr (1, [.int 0, .ref q0, .int 0, .int 0, .ref q1, .ref q2, .ref q3, .ref q4, .int 0, .null, .null, .null, .null])), (q0, .inl (cI, 8, .inl (fun _ => 0))), (q1, .inl (cI, 140, .inl (fun _ => 0))), (q2, .inl (cI, 132, .inl (fun _ => 0))), (q3, .inl (cI, 4, .inl (fun _ => 0))), (q4, .inl (cI, 256, .inl (fun _ => 0))), (q5, .inl (cI, 128, .inl (preT 116)))] := hD
  refine lv_dup hx hb dX1_init_698 rfl ?_
  refine lv_bipush (v := nI 116) hx hb dX1_init_699 (by decide) ?_
  refine lv_bipush (v := nI 14) hx hb dX1_init_701 (by decide) ?_
  refine wk_iast hx hb hK hP hD hS 6 0 rfl rfl (k := 116) (x := nI 14) (by decide) (by decide) dX1_init_703 (fun H locs hP hD hS => ?_)
  simp only [List.set] at hP hD
  rw [preT_s 116 (show TB 116 = nI 14 from by decide +kernel)] at hP hD
  have hP : va_P D vwCl [(h0, .inr (1, [.int 0, .ref q0, .int 0, .int 0, .ref q1, .ref q2, .ref q3, .ref q4, .int 0, .null, .null, .null, .null])), (q0, .inl (cI, 8, .inl (fun _ => 0))), (q1, .inl (cI, 140, .inl (fun _ => 0))), (q2, .inl (cI, 132, .inl (fun _ => 0))), (q3, .inl (cI, 4, .inl (fun _ => 0))), (q4, .inl (cI, 256, .inl (fun _ => 0))), (q5, .inl (cI, 128, .inl (preT 117)))] H := hP
  have hD : va_D A [(h0, .inr (1, [.int 0, .ref q0, .int 0, .int 0, .ref q1, .ref q2, .ref q3, .ref q4, .int 0, .null, .null, .null, .null])), (q0, .inl (cI, 8, .inl (fun _ => 0))), (q1, .inl (cI, 140, .inl (fun _ => 0))), (q2, .inl (cI, 132, .inl (fun _ => 0))), (q3, .inl (cI, 4, .inl (fun _ => 0))), (q4, .inl (cI, 256, .inl (fun _ => 0))), (q5, .inl (cI, 128, .inl (preT 117)))] := hD
  refine lv_dup hx hb dX1_init_704 rfl ?_
  refine lv_bipush (v := nI 117) hx hb dX1_init_705 (by decide) ?_
  refine lv_bipush (v := nI 8) hx hb dX1_init_707 (by decide) ?_
  refine wk_iast hx hb hK hP hD hS 6 0 rfl rfl (k := 117) (x := nI 8) (by decide) (by decide) dX1_init_709 (fun H locs hP hD hS => ?_)
  simp only [List.set] at hP hD
  rw [preT_s 117 (show TB 117 = nI 8 from by decide +kernel)] at hP hD
  have hP : va_P D vwCl [(h0, .inr (1, [.int 0, .ref q0, .int 0, .int 0, .ref q1, .ref q2, .ref q3, .ref q4, .int 0, .null, .null, .null, .null])), (q0, .inl (cI, 8, .inl (fun _ => 0))), (q1, .inl (cI, 140, .inl (fun _ => 0))), (q2, .inl (cI, 132, .inl (fun _ => 0))), (q3, .inl (cI, 4, .inl (fun _ => 0))), (q4, .inl (cI, 256, .inl (fun _ => 0))), (q5, .inl (cI, 128, .inl (preT 118)))] H := hP
  have hD : va_D A [(h0, .inr (1, [.int 0, .ref q0, .int 0, .int 0, .ref q1, .ref q2, .ref q3, .ref q4, .int 0, .null, .null, .null, .null])), (q0, .inl (cI, 8, .inl (fun _ => 0))), (q1, .inl (cI, 140, .inl (fun _ => 0))), (q2, .inl (cI, 132, .inl (fun _ => 0))), (q3, .inl (cI, 4, .inl (fun _ => 0))), (q4, .inl (cI, 256, .inl (fun _ => 0))), (q5, .inl (cI, 128, .inl (preT 118)))] := hD
  refine lv_dup hx hb dX1_init_710 rfl ?_
  refine lv_bipush (v := nI 118) hx hb dX1_init_711 (by decide) ?_
  refine lv_iconst (v := nI 2) hx hb dX1_init_713 (by decide) ?_
  refine wk_iast hx hb hK hP hD hS 6 0 rfl rfl (k := 118) (x := nI 2) (by decide) (by decide) dX1_init_714 (fun H locs hP hD hS => ?_)
  simp only [List.set] at hP hD
  rw [preT_s 118 (show TB 118 = nI 2 from by decide +kernel)] at hP hD
  have hP : va_P D vwCl [(h0, .inr (1, [.int 0, .ref q0, .int 0, .int 0, .ref q1, .ref q2, .ref q3, .ref q4, .int 0, .null, .null, .null, .null])), (q0, .inl (cI, 8, .inl (fun _ => 0))), (q1, .inl (cI, 140, .inl (fun _ => 0))), (q2, .inl (cI, 132, .inl (fun _ => 0))), (q3, .inl (cI, 4, .inl (fun _ => 0))), (q4, .inl (cI, 256, .inl (fun _ => 0))), (q5, .inl (cI, 128, .inl (preT 119)))] H := hP
  have hD : va_D A [(h0, .inr (1, [.int 0, .ref q0, .int 0, .int 0, .ref q1, .ref q2, .ref q3, .ref q4, .int 0, .null, .null, .null, .null])), (q0, .inl (cI, 8, .inl (fun _ => 0))), (q1, .inl (cI, 140, .inl (fun _ => 0))), (q2, .inl (cI, 132, .inl (fun _ => 0))), (q3, .inl (cI, 4, .inl (fun _ => 0))), (q4, .inl (cI, 256, .inl (fun _ => 0))), (q5, .inl (cI, 128, .inl (preT 119)))] := hD
  refine lv_dup hx hb dX1_init_715 rfl ?_
  refine lv_bipush (v := nI 119) hx hb dX1_init_716 (by decide) ?_
  refine lv_bipush (v := nI 11) hx hb dX1_init_718 (by decide) ?_
  refine wk_iast hx hb hK hP hD hS 6 0 rfl rfl (k := 119) (x := nI 11) (by decide) (by decide) dX1_init_720 (fun H locs hP hD hS => ?_)
  simp only [List.set] at hP hD
  rw [preT_s 119 (show TB 119 = nI 11 from by decide +kernel)] at hP hD
  have hP : va_P D vwCl [(h0, .inr (1, [.int 0, .ref q0, .int 0, .int 0, .ref q1, .ref q2, .ref q3, .ref q4, .int 0, .null, .null, .null, .null])), (q0, .inl (cI, 8, .inl (fun _ => 0))), (q1, .inl (cI, 140, .inl (fun _ => 0))), (q2, .inl (cI, 132, .inl (fun _ => 0))), (q3, .inl (cI, 4, .inl (fun _ => 0))), (q4, .inl (cI, 256, .inl (fun _ => 0))), (q5, .inl (cI, 128, .inl (preT 120)))] H := hP
  have hD : va_D A [(h0, .inr (1, [.int 0, .ref q0, .int 0, .int 0, .ref q1, .ref q2, .ref q3, .ref q4, .int 0, .null, .null, .null, .null])), (q0, .inl (cI, 8, .inl (fun _ => 0))), (q1, .inl (cI, 140, .inl (fun _ => 0))), (q2, .inl (cI, 132, .inl (fun _ => 0))), (q3, .inl (cI, 4, .inl (fun _ => 0))), (q4, .inl (cI, 256, .inl (fun _ => 0))), (q5, .inl (cI, 128, .inl (preT 120)))] := hD
  refine lv_dup hx hb dX1_init_721 rfl ?_
  refine lv_bipush (v := nI 120) hx hb dX1_init_722 (by decide) ?_
  refine lv_bipush (v := nI 7) hx hb dX1_init_724 (by decide) ?_
  refine wk_iast hx hb hK hP hD hS 6 0 rfl rfl (k := 120) (x := nI 7) (by decide) (by decide) dX1_init_726 (fun H locs hP hD hS => ?_)
  simp only [List.set] at hP hD
  rw [preT_s 120 (show TB 120 = nI 7 from by decide +kernel)] at hP hD
  have hP : va_P D vwCl [(h0, .inr (1, [.int 0, .ref q0, .int 0, .int 0, .ref q1, .ref q2, .ref q3, .ref q4, .int 0, .null, .null, .null, .null])), (q0, .inl (cI, 8, .inl (fun _ => 0))), (q1, .inl (cI, 140, .inl (fun _ => 0))), (q2, .inl (cI, 132, .inl (fun _ => 0))), (q3, .inl (cI, 4, .inl (fun _ => 0))), (q4, .inl (cI, 256, .inl (fun _ => 0))), (q5, .inl (cI, 128, .inl (preT 121)))] H := hP
  have hD : va_D A [(h0, .inr (1, [.int 0, .ref q0, .int 0, .int 0, .ref q1, .ref q2, .ref q3, .ref q4, .int 0, .null, .null, .null, .null])), (q0, .inl (cI, 8, .inl (fun _ => 0))), (q1, .inl (cI, 140, .inl (fun _ => 0))), (q2, .inl (cI, 132, .inl (fun _ => 0))), (q3, .inl (cI, 4, .inl (fun _ => 0))), (q4, .inl (cI, 256, .inl (fun _ => 0))), (q5, .inl (cI, 128, .inl (preT 121)))] := hD
  refine lv_dup hx hb dX1_init_727 rfl ?_
  refine lv_bipush (v := nI 121) hx hb dX1_init_728 (by decide) ?_
  refine lv_iconst (v := nI 4) hx hb dX1_init_730 (by decide) ?_
  refine wk_iast hx hb hK hP hD hS 6 0 rfl rfl (k := 121) (x := nI 4) (by decide) (by decide) dX1_init_731 (fun H locs hP hD hS => ?_)
  simp only [List.set] at hP hD
  rw [preT_s 121 (show TB 121 = nI 4 from by decide +kernel)] at hP hD
  have hP : va_P D vwCl [(h0, .inr (1, [.int 0, .ref q0, .int 0, .int 0, .ref q1, .ref q2, .ref q3, .ref q4, .int 0, .null, .null, .null, .null])), (q0, .inl (cI, 8, .inl (fun _ => 0))), (q1, .inl (cI, 140, .inl (fun _ => 0))), (q2, .inl (cI, 132, .inl (fun _ => 0))), (q3, .inl (cI, 4, .inl (fun _ => 0))), (q4, .inl (cI, 256, .inl (fun _ => 0))), (q5, .inl (cI, 128, .inl (preT 122)))] H := hP
  have hD : va_D A [(h0, .inr (1, [.int 0, .ref q0, .int 0, .int 0, .ref q1, .ref q2, .ref q3, .ref q4, .int 0, .null, .null, .null, .null])), (q0, .inl (cI, 8, .inl (fun _ => 0))), (q1, .inl (cI, 140, .inl (fun _ => 0))), (q2, .inl (cI, 132, .inl (fun _ => 0))), (q3, .inl (cI, 4, .inl (fun _ => 0))), (q4, .inl (cI, 256, .inl (fun _ => 0))), (q5, .inl (cI, 128, .inl (preT 122)))] := hD
  refine lv_dup hx hb dX1_init_732 rfl ?_
  refine lv_bipush (v := nI 122) hx hb dX1_init_733 (by decide) ?_
  refine lv_bipush (v := nI 12) hx hb dX1_init_735 (by decide) ?_
  refine wk_iast hx hb hK hP hD hS 6 0 rfl rfl (k := 122) (x := nI 12) (by decide) (by decide) dX1_init_737 (fun H locs hP hD hS => ?_)
  simp only [List.set] at hP hD
  rw [preT_s 122 (show TB 122 = nI 12 from by decide +kernel)] at hP hD
  have hP : va_P D vwCl [(h0, .inr (1, [.int 0, .ref q0, .int 0, .int 0, .ref q1, .ref q2, .ref q3, .ref q4, .int 0, .null, .null, .null, .null])), (q0, .inl (cI, 8, .inl (fun _ => 0))), (q1, .inl (cI, 140, .inl (fun _ => 0))), (q2, .inl (cI, 132, .inl (fun _ => 0))), (q3, .inl (cI, 4, .inl (fun _ => 0))), (q4, .inl (cI, 256, .inl (fun _ => 0))), (q5, .inl (cI, 128, .inl (preT 123)))] H := hP
  have hD : va_D A [(h0, .inr (1, [.int 0, .ref q0, .int 0, .int 0, .ref q1, .ref q2, .ref q3, .ref q4, .int 0, .null, .null, .null, .null])), (q0, .inl (cI, 8, .inl (fun _ => 0))), (q1, .inl (cI, 140, .inl (fun _ => 0))), (q2, .inl (cI, 132, .inl (fun _ => 0))), (q3, .inl (cI, 4, .inl (fun _ => 0))), (q4, .inl (cI, 256, .inl (fun _ => 0))), (q5, .inl (cI, 128, .inl (preT 123)))] := hD
  refine lv_dup hx hb dX1_init_738 rfl ?_
  refine lv_bipush (v := nI 123) hx hb dX1_init_739 (by decide) ?_
  refine lv_bipush (v := nI 10) hx hb dX1_init_741 (by decide) ?_
  refine wk_iast hx hb hK hP hD hS 6 0 rfl rfl (k := 123) (x := nI 10) (by decide) (by decide) dX1_init_743 (fun H locs hP hD hS => ?_)
  simp only [List.set] at hP hD
  rw [preT_s 123 (show TB 123 = nI 10 from by decide +kernel)] at hP hD
  have hP : va_P D vwCl [(h0, .inr (1, [.int 0, .ref q0, .int 0, .int 0, .ref q1, .ref q2, .ref q3, .ref q4, .int 0, .null, .null, .null, .null])), (q0, .inl (cI, 8, .inl (fun _ => 0))), (q1, .inl (cI, 140, .inl (fun _ => 0))), (q2, .inl (cI, 132, .inl (fun _ => 0))), (q3, .inl (cI, 4, .inl (fun _ => 0))), (q4, .inl (cI, 256, .inl (fun _ => 0))), (q5, .inl (cI, 128, .inl (preT 124)))] H := hP
  have hD : va_D A [(h0, .inr (1, [.int 0, .ref q0, .int 0, .int 0, .ref q1, .ref q2, .ref q3, .ref q4, .int 0, .null, .null, .null, .null])), (q0, .inl (cI, 8, .inl (fun _ => 0))), (q1, .inl (cI, 140, .inl (fun _ => 0))), (q2, .inl (cI, 132, .inl (fun _ => 0))), (q3, .inl (cI, 4, .inl (fun _ => 0))), (q4, .inl (cI, 256, .inl (fun _ => 0))), (q5, .inl (cI, 128, .inl (preT 124)))] := hD
  refine lv_dup hx hb dX1_init_744 rfl ?_
  refine lv_bipush (v := nI 124) hx hb dX1_init_745 (by decide) ?_
  refine lv_bipush (v := nI 9) hx hb dX1_init_747 (by decide) ?_
  refine wk_iast hx hb hK hP hD hS 6 0 rfl rfl (k := 124) (x := nI 9) (by decide) (by decide) dX1_init_749 (fun H locs hP hD hS => ?_)
  simp only [List.set] at hP hD
  rw [preT_s 124 (show TB 124 = nI 9 from by decide +kernel)] at hP hD
  have hP : va_P D vwCl [(h0, .inr (1, [.int 0, .ref q0, .int 0, .int 0, .ref q1, .ref q2, .ref q3, .ref q4, .int 0, .null, .null, .null, .null])), (q0, .inl (cI, 8, .inl (fun _ => 0))), (q1, .inl (cI, 140, .inl (fun _ => 0))), (q2, .inl (cI, 132, .inl (fun _ => 0))), (q3, .inl (cI, 4, .inl (fun _ => 0))), (q4, .inl (cI, 256, .inl (fun _ => 0))), (q5, .inl (cI, 128, .inl (preT 125)))] H := hP
  have hD : va_D A [(h0, .inr (1, [.int 0, .ref q0, .int 0, .int 0, .ref q1, .ref q2, .ref q3, .ref q4, .int 0, .null, .null, .null, .null])), (q0, .inl (cI, 8, .inl (fun _ => 0))), (q1, .inl (cI, 140, .inl (fun _ => 0))), (q2, .inl (cI, 132, .inl (fun _ => 0))), (q3, .inl (cI, 4, .inl (fun _ => 0))), (q4, .inl (cI, 256, .inl (fun _ => 0))), (q5, .inl (cI, 128, .inl (preT 125)))] := hD
  refine lv_dup hx hb dX1_init_750 rfl ?_
  refine lv_bipush (v := nI 125) hx hb dX1_init_751 (by decide) ?_
  refine lv_iconst (v := nI 3) hx hb dX1_init_753 (by decide) ?_
  refine wk_iast hx hb hK hP hD hS 6 0 rfl rfl (k := 125) (x := nI 3) (by decide) (by decide) dX1_init_754 (fun H locs hP hD hS => ?_)
  simp only [List.set] at hP hD
  rw [preT_s 125 (show TB 125 = nI 3 from by decide +kernel)] at hP hD
  have hP : va_P D vwCl [(h0, .inr (1, [.int 0, .ref q0, .int 0, .int 0, .ref q1, .ref q2, .ref q3, .ref q4, .int 0, .null, .null, .null, .null])), (q0, .inl (cI, 8, .inl (fun _ => 0))), (q1, .inl (cI, 140, .inl (fun _ => 0))), (q2, .inl (cI, 132, .inl (fun _ => 0))), (q3, .inl (cI, 4, .inl (fun _ => 0))), (q4, .inl (cI, 256, .inl (fun _ => 0))), (q5, .inl (cI, 128, .inl (preT 126)))] H := hP
  have hD : va_D A [(h0, .inr (1, [.int 0, .ref q0, .int 0, .int 0, .ref q1, .ref q2, .ref q3, .ref q4, .int 0, .null, .null, .null, .null])), (q0, .inl (cI, 8, .inl (fun _ => 0))), (q1, .inl (cI, 140, .inl (fun _ => 0))), (q2, .inl (cI, 132, .inl (fun _ => 0))), (q3, .inl (cI, 4, .inl (fun _ => 0))), (q4, .inl (cI, 256, .inl (fun _ => 0))), (q5, .inl (cI, 128, .inl (preT 126)))] := hD
  refine lv_dup hx hb dX1_init_755 rfl ?_
  refine lv_bipush (v := nI 126) hx hb dX1_init_756 (by decide) ?_
  refine lv_iconst (v := nI 5) hx hb dX1_init_758 (by decide) ?_
  refine wk_iast hx hb hK hP hD hS 6 0 rfl rfl (k := 126) (x := nI 5) (by decide) (by decide) dX1_init_759 (fun H locs hP hD hS => ?_)
  simp only [List.set] at hP hD
  rw [preT_s 126 (show TB 126 = nI 5 from by decide +kernel)] at hP hD
  have hP : va_P D vwCl [(h0, .inr (1, [.int 0, .ref q0, .int 0, .int 0, .ref q1, .ref q2, .ref q3, .ref q4, .int 0, .null, .null, .null, .null])), (q0, .inl (cI, 8, .inl (fun _ => 0))), (q1, .inl (cI, 140, .inl (fun _ => 0))), (q2, .inl (cI, 132, .inl (fun _ => 0))), (q3, .inl (cI, 4, .inl (fun _ => 0))), (q4, .inl (cI, 256, .inl (fun _ => 0))), (q5, .inl (cI, 128, .inl (preT 127)))] H := hP
  have hD : va_D A [(h0, .inr (1, [.int 0, .ref q0, .int 0, .int 0, .ref q1, .ref q2, .ref q3, .ref q4, .int 0, .null, .null, .null, .null])), (q0, .inl (cI, 8, .inl (fun _ => 0))), (q1, .inl (cI, 140, .inl (fun _ => 0))), (q2, .inl (cI, 132, .inl (fun _ => 0))), (q3, .inl (cI, 4, .inl (fun _ => 0))), (q4, .inl (cI, 256, .inl (fun _ => 0))), (q5, .inl (cI, 128, .inl (preT 127)))] := hD
  refine lv_dup hx hb dX1_init_760 rfl ?_
  refine lv_bipush (v := nI 127) hx hb dX1_init_761 (by decide) ?_
  refine lv_bipush (v := nI 6) hx hb dX1_init_763 (by decide) ?_
  refine wk_iast hx hb hK hP hD hS 6 0 rfl rfl (k := 127) (x := nI 6) (by decide) (by decide) dX1_init_765 (fun H locs hP hD hS => ?_)
  simp only [List.set] at hP hD
  rw [preT_s 127 (show TB 127 = nI 6 from by decide +kernel)] at hP hD
  rw [preT_e] at hP hD
  have hP : va_P D vwCl [(h0, .inr (1, [.int 0, .ref q0, .int 0, .int 0, .ref q1, .ref q2, .ref q3, .ref q4, .int 0, .null, .null, .null, .null])), (q0, .inl (cI, 8, .inl (fun _ => 0))), (q1, .inl (cI, 140, .inl (fun _ => 0))), (q2, .inl (cI, 132, .inl (fun _ => 0))), (q3, .inl (cI, 4, .inl (fun _ => 0))), (q4, .inl (cI, 256, .inl (fun _ => 0))), (q5, .inl (cI, 128, .inl TB))] H := hP
  have hD : va_D A [(h0, .inr (1, [.int 0, .ref q0, .int 0, .int 0, .ref q1, .ref q2, .ref q3, .ref q4, .int 0, .null, .null, .null, .null])), (q0, .inl (cI, 8, .inl (fun _ => 0))), (q1, .inl (cI, 140, .inl (fun _ => 0))), (q2, .inl (cI, 132, .inl (fun _ => 0))), (q3, .inl (cI, 4, .inl (fun _ => 0))), (q4, .inl (cI, 256, .inl (fun _ => 0))), (q5, .inl (cI, 128, .inl TB))] := hD
  refine va_putF (D := D) (ci := 1) (v := .ref q5) (ty := .array .int) (C := RX1) (T := TX1) (N := 13) hx hb hts hinX1 tyX1 tyX1_ok nmX1 hown hK hP hD hS 0 rfl rfl 9 (by decide) (hts (.fieldLink RX1 25 "SlicedCipherModel" "rows" "[I") (by decide +kernel)) (fun _ h9 => h9) rfl hin9 rfl (by decide +kernel) rfl rfl (Nat.le_of_ble_eq_true rfl) dX1_init_766 (fun H locs hP hD hS => ?_)
  have hP : va_P D vwCl [(h0, .inr (1, [.int 0, .ref q0, .int 0, .int 0, .ref q1, .ref q2, .ref q3, .ref q4, .int 0, .ref q5, .null, .null, .null])), (q0, .inl (cI, 8, .inl (fun _ => 0))), (q1, .inl (cI, 140, .inl (fun _ => 0))), (q2, .inl (cI, 132, .inl (fun _ => 0))), (q3, .inl (cI, 4, .inl (fun _ => 0))), (q4, .inl (cI, 256, .inl (fun _ => 0))), (q5, .inl (cI, 128, .inl TB))] H := hP
  have hD : va_D A [(h0, .inr (1, [.int 0, .ref q0, .int 0, .int 0, .ref q1, .ref q2, .ref q3, .ref q4, .int 0, .ref q5, .null, .null, .null])), (q0, .inl (cI, 8, .inl (fun _ => 0))), (q1, .inl (cI, 140, .inl (fun _ => 0))), (q2, .inl (cI, 132, .inl (fun _ => 0))), (q3, .inl (cI, 4, .inl (fun _ => 0))), (q4, .inl (cI, 256, .inl (fun _ => 0))), (q5, .inl (cI, 128, .inl TB))] := hD
  refine lv_aload_n hx hb dX1_init_769 rfl (lv_at hl 0 rfl) ?_
  refine lv_iconst (v := nI 4) hx hb dX1_init_770 (by decide) ?_
  refine wk_newi (N' := 4) hx hb (hts (.arrayClass .int) (by decide +kernel)) hK 0 rfl hP hD hS hA (by decide) (Nat.le_of_ble_eq_true rfl) (Nat.le_of_ble_eq_true rfl) dX1_init_771 (fun q6 H hP hD hS => ?_)
  have hP : va_P D vwCl [(h0, .inr (1, [.int 0, .ref q0, .int 0, .int 0, .ref q1, .ref q2, .ref q3, .ref q4, .int 0, .ref q5, .null, .null, .null])), (q0, .inl (cI, 8, .inl (fun _ => 0))), (q1, .inl (cI, 140, .inl (fun _ => 0))), (q2, .inl (cI, 132, .inl (fun _ => 0))), (q3, .inl (cI, 4, .inl (fun _ => 0))), (q4, .inl (cI, 256, .inl (fun _ => 0))), (q5, .inl (cI, 128, .inl TB)), (q6, .inl (cI, 4, .inl (fun _ => 0)))] H := hP
  have hD : va_D A [(h0, .inr (1, [.int 0, .ref q0, .int 0, .int 0, .ref q1, .ref q2, .ref q3, .ref q4, .int 0, .ref q5, .null, .null, .null])), (q0, .inl (cI, 8, .inl (fun _ => 0))), (q1, .inl (cI, 140, .inl (fun _ => 0))), (q2, .inl (cI, 132, .inl (fun _ => 0))), (q3, .inl (cI, 4, .inl (fun _ => 0))), (q4, .inl (cI, 256, .inl (fun _ => 0))), (q5, .inl (cI, 128, .inl TB)), (q6, .inl (cI, 4, .inl (fun _ => 0)))] := hD
  refine va_putF (D := D) (ci := 1) (v := .ref q6) (ty := .array .int) (C := RX1) (T := TX1) (N := 13) hx hb hts hinX1 tyX1 tyX1_ok nmX1 hown hK hP hD hS 0 rfl rfl 10 (by decide) (hts (.fieldLink RX1 28 "SlicedCipherModel" "block" "[I") (by decide +kernel)) (fun _ h9 => h9) rfl hin9 rfl (by decide +kernel) rfl rfl (Nat.le_of_ble_eq_true rfl) dX1_init_773 (fun H locs hP hD hS => ?_)
  have hP : va_P D vwCl [(h0, .inr (1, [.int 0, .ref q0, .int 0, .int 0, .ref q1, .ref q2, .ref q3, .ref q4, .int 0, .ref q5, .ref q6, .null, .null])), (q0, .inl (cI, 8, .inl (fun _ => 0))), (q1, .inl (cI, 140, .inl (fun _ => 0))), (q2, .inl (cI, 132, .inl (fun _ => 0))), (q3, .inl (cI, 4, .inl (fun _ => 0))), (q4, .inl (cI, 256, .inl (fun _ => 0))), (q5, .inl (cI, 128, .inl TB)), (q6, .inl (cI, 4, .inl (fun _ => 0)))] H := hP
  have hD : va_D A [(h0, .inr (1, [.int 0, .ref q0, .int 0, .int 0, .ref q1, .ref q2, .ref q3, .ref q4, .int 0, .ref q5, .ref q6, .null, .null])), (q0, .inl (cI, 8, .inl (fun _ => 0))), (q1, .inl (cI, 140, .inl (fun _ => 0))), (q2, .inl (cI, 132, .inl (fun _ => 0))), (q3, .inl (cI, 4, .inl (fun _ => 0))), (q4, .inl (cI, 256, .inl (fun _ => 0))), (q5, .inl (cI, 128, .inl TB)), (q6, .inl (cI, 4, .inl (fun _ => 0)))] := hD
  refine lv_aload_n hx hb dX1_init_776 rfl (lv_at hl 0 rfl) ?_
  refine lv_iconst (v := nI 4) hx hb dX1_init_777 (by decide) ?_
  refine wk_newi (N' := 4) hx hb (hts (.arrayClass .int) (by decide +kernel)) hK 0 rfl hP hD hS hA (by decide) (Nat.le_of_ble_eq_true rfl) (Nat.le_of_ble_eq_true rfl) dX1_init_778 (fun q7 H hP hD hS => ?_)
  have hP : va_P D vwCl [(h0, .inr (1, [.int 0, .ref q0, .int 0, .int 0, .ref q1, .ref q2, .ref q3, .ref q4, .int 0, .ref q5, .ref q6, .null, .null])), (q0, .inl (cI, 8, .inl (fun _ => 0))), (q1, .inl (cI, 140, .inl (fun _ => 0))), (q2, .inl (cI, 132, .inl (fun _ => 0))), (q3, .inl (cI, 4, .inl (fun _ => 0))), (q4, .inl (cI, 256, .inl (fun _ => 0))), (q5, .inl (cI, 128, .inl TB)), (q6, .inl (cI, 4, .inl (fun _ => 0))), (q7, .inl (cI, 4, .inl (fun _ => 0)))] H := hP
  have hD : va_D A [(h0, .inr (1, [.int 0, .ref q0, .int 0, .int 0, .ref q1, .ref q2, .ref q3, .ref q4, .int 0, .ref q5, .ref q6, .null, .null])), (q0, .inl (cI, 8, .inl (fun _ => 0))), (q1, .inl (cI, 140, .inl (fun _ => 0))), (q2, .inl (cI, 132, .inl (fun _ => 0))), (q3, .inl (cI, 4, .inl (fun _ => 0))), (q4, .inl (cI, 256, .inl (fun _ => 0))), (q5, .inl (cI, 128, .inl TB)), (q6, .inl (cI, 4, .inl (fun _ => 0))), (q7, .inl (cI, 4, .inl (fun _ => 0)))] := hD
  refine va_putF (D := D) (ci := 1) (v := .ref q7) (ty := .array .int) (C := RX1) (T := TX1) (N := 13) hx hb hts hinX1 tyX1 tyX1_ok nmX1 hown hK hP hD hS 0 rfl rfl 11 (by decide) (hts (.fieldLink RX1 31 "SlicedCipherModel" "made" "[I") (by decide +kernel)) (fun _ h9 => h9) rfl hin9 rfl (by decide +kernel) rfl rfl (Nat.le_of_ble_eq_true rfl) dX1_init_780 (fun H locs hP hD hS => ?_)
  have hP : va_P D vwCl [(h0, .inr (1, [.int 0, .ref q0, .int 0, .int 0, .ref q1, .ref q2, .ref q3, .ref q4, .int 0, .ref q5, .ref q6, .ref q7, .null])), (q0, .inl (cI, 8, .inl (fun _ => 0))), (q1, .inl (cI, 140, .inl (fun _ => 0))), (q2, .inl (cI, 132, .inl (fun _ => 0))), (q3, .inl (cI, 4, .inl (fun _ => 0))), (q4, .inl (cI, 256, .inl (fun _ => 0))), (q5, .inl (cI, 128, .inl TB)), (q6, .inl (cI, 4, .inl (fun _ => 0))), (q7, .inl (cI, 4, .inl (fun _ => 0)))] H := hP
  have hD : va_D A [(h0, .inr (1, [.int 0, .ref q0, .int 0, .int 0, .ref q1, .ref q2, .ref q3, .ref q4, .int 0, .ref q5, .ref q6, .ref q7, .null])), (q0, .inl (cI, 8, .inl (fun _ => 0))), (q1, .inl (cI, 140, .inl (fun _ => 0))), (q2, .inl (cI, 132, .inl (fun _ => 0))), (q3, .inl (cI, 4, .inl (fun _ => 0))), (q4, .inl (cI, 256, .inl (fun _ => 0))), (q5, .inl (cI, 128, .inl TB)), (q6, .inl (cI, 4, .inl (fun _ => 0))), (q7, .inl (cI, 4, .inl (fun _ => 0)))] := hD
  refine lv_aload_n hx hb dX1_init_783 rfl (lv_at hl 0 rfl) ?_
  refine lv_iconst (v := nI 4) hx hb dX1_init_784 (by decide) ?_
  refine wk_newi (N' := 4) hx hb (hts (.arrayClass .int) (by decide +kernel)) hK 0 rfl hP hD hS hA (by decide) (Nat.le_of_ble_eq_true rfl) (Nat.le_of_ble_eq_true rfl) dX1_init_785 (fun q8 H hP hD hS => ?_)
  have hP : va_P D vwCl [(h0, .inr (1, [.int 0, .ref q0, .int 0, .int 0, .ref q1, .ref q2, .ref q3, .ref q4, .int 0, .ref q5, .ref q6, .ref q7, .null])), (q0, .inl (cI, 8, .inl (fun _ => 0))), (q1, .inl (cI, 140, .inl (fun _ => 0))), (q2, .inl (cI, 132, .inl (fun _ => 0))), (q3, .inl (cI, 4, .inl (fun _ => 0))), (q4, .inl (cI, 256, .inl (fun _ => 0))), (q5, .inl (cI, 128, .inl TB)), (q6, .inl (cI, 4, .inl (fun _ => 0))), (q7, .inl (cI, 4, .inl (fun _ => 0))), (q8, .inl (cI, 4, .inl (fun _ => 0)))] H := hP
  have hD : va_D A [(h0, .inr (1, [.int 0, .ref q0, .int 0, .int 0, .ref q1, .ref q2, .ref q3, .ref q4, .int 0, .ref q5, .ref q6, .ref q7, .null])), (q0, .inl (cI, 8, .inl (fun _ => 0))), (q1, .inl (cI, 140, .inl (fun _ => 0))), (q2, .inl (cI, 132, .inl (fun _ => 0))), (q3, .inl (cI, 4, .inl (fun _ => 0))), (q4, .inl (cI, 256, .inl (fun _ => 0))), (q5, .inl (cI, 128, .inl TB)), (q6, .inl (cI, 4, .inl (fun _ => 0))), (q7, .inl (cI, 4, .inl (fun _ => 0))), (q8, .inl (cI, 4, .inl (fun _ => 0)))] := hD
  refine va_putF (D := D) (ci := 1) (v := .ref q8) (ty := .array .int) (C := RX1) (T := TX1) (N := 13) hx hb hts hinX1 tyX1 tyX1_ok nmX1 hown hK hP hD hS 0 rfl rfl 12 (by decide) (hts (.fieldLink RX1 34 "SlicedCipherModel" "last" "[I") (by decide +kernel)) (fun _ h9 => h9) rfl hin9 rfl (by decide +kernel) rfl rfl (Nat.le_of_ble_eq_true rfl) dX1_init_787 (fun H locs hP hD hS => ?_)
  have hP : va_P D vwCl [(h0, .inr (1, [.int 0, .ref q0, .int 0, .int 0, .ref q1, .ref q2, .ref q3, .ref q4, .int 0, .ref q5, .ref q6, .ref q7, .ref q8])), (q0, .inl (cI, 8, .inl (fun _ => 0))), (q1, .inl (cI, 140, .inl (fun _ => 0))), (q2, .inl (cI, 132, .inl (fun _ => 0))), (q3, .inl (cI, 4, .inl (fun _ => 0))), (q4, .inl (cI, 256, .inl (fun _ => 0))), (q5, .inl (cI, 128, .inl TB)), (q6, .inl (cI, 4, .inl (fun _ => 0))), (q7, .inl (cI, 4, .inl (fun _ => 0))), (q8, .inl (cI, 4, .inl (fun _ => 0)))] H := hP
  have hD : va_D A [(h0, .inr (1, [.int 0, .ref q0, .int 0, .int 0, .ref q1, .ref q2, .ref q3, .ref q4, .int 0, .ref q5, .ref q6, .ref q7, .ref q8])), (q0, .inl (cI, 8, .inl (fun _ => 0))), (q1, .inl (cI, 140, .inl (fun _ => 0))), (q2, .inl (cI, 132, .inl (fun _ => 0))), (q3, .inl (cI, 4, .inl (fun _ => 0))), (q4, .inl (cI, 256, .inl (fun _ => 0))), (q5, .inl (cI, 128, .inl TB)), (q6, .inl (cI, 4, .inl (fun _ => 0))), (q7, .inl (cI, 4, .inl (fun _ => 0))), (q8, .inl (cI, 4, .inl (fun _ => 0)))] := hD
  refine lv_aload_n hx hb dX1_init_790 rfl (lv_at hl 0 rfl) ?_
  refine lv_iconst (v := nI 0) hx hb dX1_init_791 (by decide) ?_
  refine va_put (D := D) (ci := 1) (v := .int (nI 0)) (ty := .int) (C := RX1) (T := TX1) (N := 13) hx hb hts hinX1 tyX1 tyX1_ok nmX1 hown hK hP hD hS 0 rfl rfl 8 (by decide) (hts (.fieldLink RX1 37 "SlicedCipherModel" "size" "I") (by decide +kernel)) (fun _ h9 => h9) rfl (by decide +kernel) rfl rfl (Nat.le_of_ble_eq_true rfl) dX1_init_792 (fun H locs hP hD hS => ?_)
  have hP : va_P D vwCl [(h0, .inr (1, [.int 0, .ref q0, .int 0, .int 0, .ref q1, .ref q2, .ref q3, .ref q4, .int (nI 0), .ref q5, .ref q6, .ref q7, .ref q8])), (q0, .inl (cI, 8, .inl (fun _ => 0))), (q1, .inl (cI, 140, .inl (fun _ => 0))), (q2, .inl (cI, 132, .inl (fun _ => 0))), (q3, .inl (cI, 4, .inl (fun _ => 0))), (q4, .inl (cI, 256, .inl (fun _ => 0))), (q5, .inl (cI, 128, .inl TB)), (q6, .inl (cI, 4, .inl (fun _ => 0))), (q7, .inl (cI, 4, .inl (fun _ => 0))), (q8, .inl (cI, 4, .inl (fun _ => 0)))] H := hP
  have hD : va_D A [(h0, .inr (1, [.int 0, .ref q0, .int 0, .int 0, .ref q1, .ref q2, .ref q3, .ref q4, .int (nI 0), .ref q5, .ref q6, .ref q7, .ref q8])), (q0, .inl (cI, 8, .inl (fun _ => 0))), (q1, .inl (cI, 140, .inl (fun _ => 0))), (q2, .inl (cI, 132, .inl (fun _ => 0))), (q3, .inl (cI, 4, .inl (fun _ => 0))), (q4, .inl (cI, 256, .inl (fun _ => 0))), (q5, .inl (cI, 128, .inl TB)), (q6, .inl (cI, 4, .inl (fun _ => 0))), (q7, .inl (cI, 4, .inl (fun _ => 0))), (q8, .inl (cI, 4, .inl (fun _ => 0)))] := hD
  exact W.vret hx hb hr (fun t ht hW => ⟨⟨(fun k9 => match k9 with | 0 => q0 | 1 => q1 | 2 => q2 | 3 => q3 | 4 => q4 | 5 => q5 | 6 => q6 | 7 => q7 | _ => q8), rfl, trivial, by rw [ht]; exact hP, va_K.moved hW.alike hK, hD⟩, hS.F ht⟩) hS.2.2 dX1_init_795
