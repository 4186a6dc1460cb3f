def cEncR (F : Nat → Int32) (x : Qd) : Nat → Qd
  | 0 => x
  | r + 1 => if r < 31 then cMix (cBox 0 (r % 8) (x4 (cEncR F x r) (ld4 F (8 + 4 * r)))) else cBox 0 (r % 8) (x4 (cEncR F x r) (ld4 F (8 + 4 * r)))
theorem cEncR_lt (F : Nat → Int32) (x : Qd) {r : Nat} (h : r < 31) : cEncR F x (r + 1) = cMix (cBox 0 (r % 8) (x4 (cEncR F x r) (ld4 F (8 + 4 * r)))) := if_pos h
theorem cEncR_ge (F : Nat → Int32) (x : Qd) {r : Nat} (h : 31 ≤ r) : cEncR F x (r + 1) = cBox 0 (r % 8) (x4 (cEncR F x r) (ld4 F (8 + 4 * r))) := if_neg (Nat.not_lt.mpr h)
def cEnc (F : Nat → Int32) (x : Qd) : Qd := x4 (cEncR F x 32) (ld4 F (8 + 4 * 32))
/-- back: the state when j rounds are still to be undone -/
def cDecR (F : Nat → Int32) (x : Qd) : Nat → Qd
  | 0 => x4 x (ld4 F (8 + 4 * 32))
  | k + 1 => x4 (cBox 1 ((31 - k) % 8) (if 31 - k < 31 then cUnmix (cDecR F x k) else cDecR F x k)) (ld4 F (8 + 4 * (31 - k)))
theorem cDecR_at (F : Nat → Int32) (x : Qd) {j : Nat} (h : j < 32) : cDecR F x (32 - j) = x4 (cBox 1 (j % 8) (if j < 31 then cUnmix (cDecR F x (32 - (j + 1))) else cDecR F x (32 - (j + 1)))) (ld4 F (8 + 4 * j)) := by
  obtain ⟨k, hk⟩ : ∃ k, 32 - j = k + 1 := ⟨31 - j, by omega⟩
  have e1 : 32 - (j + 1) = k := by omega
  have e2 : 31 - k = j := by omega
  rw [hk, e1]
  show x4 (cBox 1 ((31 - k) % 8) (if 31 - k < 31 then cUnmix (cDecR F x k) else cDecR F x k)) (ld4 F (8 + 4 * (31 - k))) = _
  rw [e2]
theorem cDecR_lt (F : Nat → Int32) (x : Qd) {j : Nat} (h : j < 31) : cDecR F x (32 - j) = x4 (cBox 1 (j % 8) (cUnmix (cDecR F x (32 - (j + 1))))) (ld4 F (8 + 4 * j)) := by rw [cDecR_at F x (by omega), if_pos h]
theorem cDecR_ge (F : Nat → Int32) (x : Qd) {j : Nat} (h : 31 ≤ j) (h2 : j < 32) : cDecR F x (32 - j) = x4 (cBox 1 (j % 8) (cDecR F x (32 - (j + 1)))) (ld4 F (8 + 4 * j)) := by rw [cDecR_at F x h2, if_neg (by omega)]
def cDec (F : Nat → Int32) (x : Qd) : Qd := cDecR F x 32
theorem dec1 (j : Nat) : nI (j + 1) + Int32.ofInt (-1) = nI j := pk_m1 j
set_option maxRecDepth 100000 in
theorem in_X0_encipher : ∀ w ∈ wsX00, w ∈ wsX0_encipher := by decide +kernel
set_option maxHeartbeats 4000000 in
set_option maxRecDepth 100000 in
theorem c_X0_encipher (l : Launch) (D : va_G) (cI : ClassId) (tb : Nat) (sz : Nat) (h0 kw sc so tp ct sr : Nat) (kb kr tl : Int32) (w at0 n : Nat) (F f : Nat → Int32) (h1 : at0 + 4 ≤ n) (h3 : n < 2 ^ 31) : Met l yX0_encipher wsX0_encipher ({ frames := 3, cells := 0, slots := 0, locals := 77 }) (va_Pc [.ref h0, .ref w, .int (nI at0)] (fun U => PW D [(cI, .int)] [(h0, .inr (0, [.ref kw, .int kb, .int kr, .ref sc, .ref so, .ref tp, .int tl, .ref ct, .ref sr])), (sc, .inl (cI, 140, .inl F)), (w, .inl (cI, n, .inl f))] sz U ∧ bxs tb (va_A [(h0, .inr (0, [.ref kw, .int kb, .int kr, .ref sc, .ref so, .ref tp, .int tl, .ref ct, .ref sr])), (sc, .inl (cI, 140, .inl F)), (w, .inl (cI, n, .inl f))] sz) U U.heap)) (va_Qv (fun _ : Unit => True) (fun _ => BW D [(cI, .int)] (va_A [(h0, .inr (0, [.ref kw, .int kb, .int kr, .ref sc, .ref so, .ref tp, .int tl, .ref ct, .ref sr])), (sc, .inl (cI, 140, .inl F)), (w, .inl (cI, n, .inl f))] sz) [(h0, .inr (0, [.ref kw, .int kb, .int kr, .ref sc, .ref so, .ref tp, .int tl, .ref ct, .ref sr])), (sc, .inl (cI, 140, .inl F)), (w, .inl (cI, n, .inl (st4 f at0 (cEnc F (ld4 f at0)))))]) (va_A [(h0, .inr (0, [.ref kw, .int kb, .int kr, .ref sc, .ref so, .ref tp, .int tl, .ref ct, .ref sr])), (sc, .inl (cI, 140, .inl F)), (w, .inl (cI, n, .inl f))] sz)) 0 0 (va_A [(h0, .inr (0, [.ref kw, .int kb, .int kr, .ref sc, .ref so, .ref tp, .int tl, .ref ct, .ref sr])), (sc, .inl (cI, 140, .inl F)), (w, .inl (cI, n, .inl f))] sz) := by
  refine Met.ofW (cc := cX0_encipher) (maxL := 4) (ret := none) (by decide) rfl ?_
  intro p e s m args below meth c s₁ B hml hv
  obtain ⟨rfl, ⟨hsz, hP, hK, hD0⟩, hbx⟩ := hv
  have hx := B.exec
  have hb := B.bytes
  have hr := B.returns
  have hts := atoms_spec (ws := wsX0_encipher) B.pre
  have hown : s.vm.findClass RX0 = some m.cls := findClass_of_methodNamed B.named
  have hlocks := B.notSynchronized
  subst hsz
  have hD := hD0.self (sz := s.heap.size)
  have hinX0 := in_X0_encipher
  generalize hAe : va_A [(h0, .inr (0, [.ref kw, .int kb, .int kr, .ref sc, .ref so, .ref tp, .int tl, .ref ct, .ref sr])), (sc, .inl (cI, 140, .inl F)), (w, .inl (cI, n, .inl f))] s.heap.size = A at hbx hD ⊢
  have hA : ∀ q : Nat, s.heap.size ≤ q → A q := fun q h => by rw [← hAe]; exact Or.inr h
  have hS : va_S A s.heap s.heap [] := va_S.rf
  have hl := lv_entry ([.ref h0, .ref w, .int (nI at0)]) (n := 4) (Nat.le_of_ble_eq_true rfl)
  rw [lg_entry_eq]
  generalize (lg_sl ([.ref h0, .ref w, .int (nI at0)]) ++ List.replicate (4 - (lg_sl ([.ref h0, .ref w, .int (nI at0)])).length) Slot.unset).toArray = ls at hl ⊢
  have hl : lv_has ls 4 [(0, .ref h0), (1, .ref w), (2, .int (nI at0))] := hl
  have lp : ∀ (fu : Nat) (r : Nat), r ≤ 32 → 32 + 1 ≤ r + fu → ∀ (H : Heap) (locs : List Loc), va_P D vwCl [(h0, .inr (0, [.ref kw, .int kb, .int kr, .ref sc, .ref so, .ref tp, .int tl, .ref ct, .ref sr])), (sc, .inl (cI, 140, .inl F)), (w, .inl (cI, n, .inl (st4 f at0 (cEncR F (ld4 f at0) r))))] H → va_D A [(h0, .inr (0, [.ref kw, .int kb, .int kr, .ref sc, .ref so, .ref tp, .int tl, .ref ct, .ref sr])), (sc, .inl (cI, 140, .inl F)), (w, .inl (cI, n, .inl (st4 f at0 (cEncR F (ld4 f at0) r))))] → va_S A s.heap H locs → ∀ (ls : Array Slot), lv_has ls 4 [(0, .ref h0), (1, .ref w), (2, .int (nI at0)), (3, .int (nI r))] → W p l e ((headSpec wsX0_encipher ({ frames := 3, cells := 0, slots := 0, locals := 77 })).room) s m ([.ref h0, .ref w, .int (nI at0)] : List Value).toArray below meth c H locs 0 0 (MQ below (va_Qv (fun _ : Unit => True) (fun _ => BW D [(cI, .int)] A [(h0, .inr (0, [.ref kw, .int kb, .int kr, .ref sc, .ref so, .ref tp, .int tl, .ref ct, .ref sr])), (sc, .inl (cI, 140, .inl F)), (w, .inl (cI, n, .inl (st4 f at0 (cEnc F (ld4 f at0)))))]) A) ([.ref h0, .ref w, .int (nI at0)] : List Value).toArray s 0 0 (A)) (F0 m 2 ls []) := by
    intro fu
    induction fu with
      | zero => intro r hi hfu; exact absurd hfu (by omega)
      | succ fu ih =>
        intro r hi hfu H locs hP hD hS ls hl
        refine lv_iload_n hx hb dX0_encipher_2 rfl (lv_at hl 3 rfl) ?_
        refine lv_bipush (v := nI 32) hx hb dX0_encipher_3 (by decide) ?_
        refine wk_geN (tgt := 48) hx hb (a := r) (b := 32) (by omega) (by decide) dX0_encipher_5 (by decide) (fun c5 => ?_) (fun c5 => ?_)
        · obtain rfl : r = 32 := by omega
          refine lv_aload_n hx hb dX0_encipher_48 rfl (lv_at hl 1 rfl) ?_
          refine lv_iload_n hx hb dX0_encipher_49 rfl (lv_at hl 2 rfl) ?_
          refine lv_aload_n hx hb dX0_encipher_50 rfl (lv_at hl 0 rfl) ?_
          refine va_get (D := D) (ci := 0) (v := .ref sc) (C := RX0) (T := TX0) (N := 9) hx hb hts hinX0 hown hK hP 0 rfl rfl 3 (by decide) (hts (.fieldLink RX0 13 "SlicedCipher" "schedule" "[I") (by decide +kernel)) (fun _ h9 => h9) rfl dX0_encipher_51 ?_
          refine lv_bipush (v := nI 32) hx hb dX0_encipher_54 (by decide) ?_
          refine wk_Sp (v := nI (8 + 4 * 32)) (As := [.int (nI 32)]) (rest := [.ref sc, .int (nI at0), .ref w]) ⟨hx, hb, hml, hown, hts⟩ (c_X0_roundKeyAt l 32) (va_cwS 1 hts gX0_encipher_X0_roundKeyAt rfl rfl rfl (by decide +kernel) ⟨Nat.le_of_ble_eq_true rfl, Nat.le_of_ble_eq_true rfl⟩) rfl hl.1 rfl (Nat.le_of_ble_eq_true rfl) dX0_encipher_56 ⟨Nat.zero_le _, Nat.zero_le _⟩ ?_
          refine wk_Sv (As := [.ref w, .int (nI at0), .ref sc, .int (nI (8 + 4 * 32))]) (rest := []) (wc := [(w, .inl (cI, n, .inl (st4 f at0 (cEncR F (ld4 f at0) 32)))), (sc, .inl (cI, 140, .inl F))]) (wr := [(h0, .inr (0, [.ref kw, .int kb, .int kr, .ref sc, .ref so, .ref tp, .int tl, .ref ct, .ref sr]))]) (w1 := [(w, .inl (cI, n, .inl (xbF (st4 f at0 (cEncR F (ld4 f at0) 32)) at0 F (8 + 4 * 32) 4))), (sc, .inl (cI, 140, .inl F))]) (w2 := [(h0, .inr (0, [.ref kw, .int kb, .int kr, .ref sc, .ref so, .ref tp, .int tl, .ref ct, .ref sr])), (sc, .inl (cI, 140, .inl F)), (w, .inl (cI, n, .inl (xbF (st4 f at0 (cEncR F (ld4 f at0) 32)) at0 F (8 + 4 * 32) 4)))]) ⟨hx, hb, hml, hown, hts⟩ (c_X0_xorBlock l D cI _ w at0 sc (8 + 4 * 32) n 140 (st4 f at0 (cEncR F (ld4 f at0) 32)) F h1 (by omega) h3 (by decide)) (va_cwS 4 hts gX0_encipher_X0_xorBlock rfl rfl rfl (by decide +kernel) ⟨Nat.le_of_ble_eq_true rfl, Nat.le_of_ble_eq_true rfl⟩) (fun _ _ _ _ h => h) (fun _ _ _ _ => trivial) hK hP hD hS hA [2, 1] [0] rfl (by decide) rfl (by decide) (by decide) [0, 2, 1] rfl (by decide) rfl hl.1 rfl (Nat.le_of_ble_eq_true rfl) dX0_encipher_59 ⟨Nat.zero_le _, Nat.zero_le _⟩ (fun H locs hP hD hS => ?_)
          simp only [xb_eq, ld4_st4, st4_st4] at hP hD
          have hP : va_P D vwCl [(h0, .inr (0, [.ref kw, .int kb, .int kr, .ref sc, .ref so, .ref tp, .int tl, .ref ct, .ref sr])), (sc, .inl (cI, 140, .inl F)), (w, .inl (cI, n, .inl (st4 f at0 (x4 (cEncR F (ld4 f at0) 32) (ld4 F (8 + 4 * 32))))))] H := hP
          have hD : va_D A [(h0, .inr (0, [.ref kw, .int kb, .int kr, .ref sc, .ref so, .ref tp, .int tl, .ref ct, .ref sr])), (sc, .inl (cI, 140, .inl F)), (w, .inl (cI, n, .inl (st4 f at0 (x4 (cEncR F (ld4 f at0) 32) (ld4 F (8 + 4 * 32))))))] := hD
          exact W.vret hx hb hr (fun t ht hW => ⟨⟨(), rfl, trivial, by rw [ht]; exact hP, va_K.moved hW.alike hK, hD⟩, hS.F ht⟩) hS.2.2 dX0_encipher_62
        · refine lv_aload_n hx hb dX0_encipher_8 rfl (lv_at hl 1 rfl) ?_
          refine lv_iload_n hx hb dX0_encipher_9 rfl (lv_at hl 2 rfl) ?_
          refine lv_aload_n hx hb dX0_encipher_10 rfl (lv_at hl 0 rfl) ?_
          refine va_get (D := D) (ci := 0) (v := .ref sc) (C := RX0) (T := TX0) (N := 9) hx hb hts hinX0 hown hK hP 0 rfl rfl 3 (by decide) (hts (.fieldLink RX0 13 "SlicedCipher" "schedule" "[I") (by decide +kernel)) (fun _ h9 => h9) rfl dX0_encipher_11 ?_
          refine lv_iload_n hx hb dX0_encipher_14 rfl (lv_at hl 3 rfl) ?_
          refine wk_Sp (v := nI (8 + 4 * r)) (As := [.int (nI r)]) (rest := [.ref sc, .int (nI at0), .ref w]) ⟨hx, hb, hml, hown, hts⟩ (c_X0_roundKeyAt l r) (va_cwS 1 hts gX0_encipher_X0_roundKeyAt rfl rfl rfl (by decide +kernel) ⟨Nat.le_of_ble_eq_true rfl, Nat.le_of_ble_eq_true rfl⟩) rfl hl.1 rfl (Nat.le_of_ble_eq_true rfl) dX0_encipher_15 ⟨Nat.zero_le _, Nat.zero_le _⟩ ?_
          refine wk_Sv (As := [.ref w, .int (nI at0), .ref sc, .int (nI (8 + 4 * r))]) (rest := []) (wc := [(w, .inl (cI, n, .inl (st4 f at0 (cEncR F (ld4 f at0) r)))), (sc, .inl (cI, 140, .inl F))]) (wr := [(h0, .inr (0, [.ref kw, .int kb, .int kr, .ref sc, .ref so, .ref tp, .int tl, .ref ct, .ref sr]))]) (w1 := [(w, .inl (cI, n, .inl (xbF (st4 f at0 (cEncR F (ld4 f at0) r)) at0 F (8 + 4 * r) 4))), (sc, .inl (cI, 140, .inl F))]) (w2 := [(h0, .inr (0, [.ref kw, .int kb, .int kr, .ref sc, .ref so, .ref tp, .int tl, .ref ct, .ref sr])), (sc, .inl (cI, 140, .inl F)), (w, .inl (cI, n, .inl (xbF (st4 f at0 (cEncR F (ld4 f at0) r)) at0 F (8 + 4 * r) 4)))]) ⟨hx, hb, hml, hown, hts⟩ (c_X0_xorBlock l D cI _ w at0 sc (8 + 4 * r) n 140 (st4 f at0 (cEncR F (ld4 f at0) r)) F h1 (by omega) h3 (by decide)) (va_cwS 4 hts gX0_encipher_X0_xorBlock rfl rfl rfl (by decide +kernel) ⟨Nat.le_of_ble_eq_true rfl, Nat.le_of_ble_eq_true rfl⟩) (fun _ _ _ _ h => h) (fun _ _ _ _ => trivial) hK hP hD hS hA [2, 1] [0] rfl (by decide) rfl (by decide) (by decide) [0, 2, 1] rfl (by decide) rfl hl.1 rfl (Nat.le_of_ble_eq_true rfl) dX0_encipher_18 ⟨Nat.zero_le _, Nat.zero_le _⟩ (fun H locs hP hD hS => ?_)
          simp only [xb_eq, ld4_st4, st4_st4] at hP hD
          have hP : va_P D vwCl [(h0, .inr (0, [.ref kw, .int kb, .int kr, .ref sc, .ref so, .ref tp, .int tl, .ref ct, .ref sr])), (sc, .inl (cI, 140, .inl F)), (w, .inl (cI, n, .inl (st4 f at0 (x4 (cEncR F (ld4 f at0) r) (ld4 F (8 + 4 * r))))))] H := hP
          have hD : va_D A [(h0, .inr (0, [.ref kw, .int kb, .int kr, .ref sc, .ref so, .ref tp, .int tl, .ref ct, .ref sr])), (sc, .inl (cI, 140, .inl F)), (w, .inl (cI, n, .inl (st4 f at0 (x4 (cEncR F (ld4 f at0) r) (ld4 F (8 + 4 * r))))))] := hD
          refine lv_aload_n hx hb dX0_encipher_21 rfl (lv_at hl 1 rfl) ?_
          refine lv_iload_n hx hb dX0_encipher_22 rfl (lv_at hl 2 rfl) ?_
          refine lv_iload_n hx hb dX0_encipher_23 rfl (lv_at hl 3 rfl) ?_
          refine lv_bipush (v := nI 8) hx hb dX0_encipher_24 (by decide) ?_
          refine wk_iremN hx hb (a := r) (b := 8) (by omega) (by decide) (by decide) dX0_encipher_26 ?_
          refine lv_iconst (v := nI 0) hx hb dX0_encipher_27 (by decide) ?_
          refine wk_Sv (As := [.ref w, .int (nI at0), .int (nI (r % 8)), .int (nI 0)]) (rest := []) (wc := [(w, .inl (cI, n, .inl (st4 f at0 (x4 (cEncR F (ld4 f at0) r) (ld4 F (8 + 4 * r))))))]) (wr := [(h0, .inr (0, [.ref kw, .int kb, .int kr, .ref sc, .ref so, .ref tp, .int tl, .ref ct, .ref sr])), (sc, .inl (cI, 140, .inl F))]) (w1 := [(w, .inl (cI, n, .inl (st4 (st4 f at0 (x4 (cEncR F (ld4 f at0) r) (ld4 F (8 + 4 * r)))) at0 (cBox 0 (r % 8) (ld4 (st4 f at0 (x4 (cEncR F (ld4 f at0) r) (ld4 F (8 + 4 * r)))) at0)))))]) (w2 := [(h0, .inr (0, [.ref kw, .int kb, .int kr, .ref sc, .ref so, .ref tp, .int tl, .ref ct, .ref sr])), (sc, .inl (cI, 140, .inl F)), (w, .inl (cI, n, .inl (st4 (st4 f at0 (x4 (cEncR F (ld4 f at0) r) (ld4 F (8 + 4 * r)))) at0 (cBox 0 (r % 8) (ld4 (st4 f at0 (x4 (cEncR F (ld4 f at0) r) (ld4 F (8 + 4 * r)))) at0)))))]) ⟨hx, hb, hml, hown, hts⟩ (c_X0_passBox0 l D cI tb _ w at0 (r % 8) n (st4 f at0 (x4 (cEncR F (ld4 f at0) r) (ld4 F (8 + 4 * r)))) h1 (Nat.mod_lt _ (by decide)) h3) (va_cwS 4 hts gX0_encipher_X0_passBox rfl rfl rfl (by decide +kernel) ⟨Nat.le_of_ble_eq_true rfl, Nat.le_of_ble_eq_true rfl⟩) (fun U g mk a h => bxs.call g mk a h) (fun hF U hU hW => hbx.give hS hF hU hW) hK hP hD hS hA [2] [0, 1] rfl (by decide) rfl (by decide) (by decide) [0, 1, 2] rfl (by decide) rfl hl.1 rfl (Nat.le_of_ble_eq_true rfl) dX0_encipher_28 ⟨Nat.zero_le _, Nat.zero_le _⟩ (fun H locs hP hD hS => ?_)
          simp only [xb_eq, ld4_st4, st4_st4] at hP hD
          have hP : va_P D vwCl [(h0, .inr (0, [.ref kw, .int kb, .int kr, .ref sc, .ref so, .ref tp, .int tl, .ref ct, .ref sr])), (sc, .inl (cI, 140, .inl F)), (w, .inl (cI, n, .inl (st4 f at0 (cBox 0 (r % 8) (x4 (cEncR F (ld4 f at0) r) (ld4 F (8 + 4 * r)))))))] H := hP
          have hD : va_D A [(h0, .inr (0, [.ref kw, .int kb, .int kr, .ref sc, .ref so, .ref tp, .int tl, .ref ct, .ref sr])), (sc, .inl (cI, 140, .inl F)), (w, .inl (cI, n, .inl (st4 f at0 (cBox 0 (r % 8) (x4 (cEncR F (ld4 f at0) r) (ld4 F (8 + 4 * r)))))))] := hD
          refine lv_iload_n hx hb dX0_encipher_31 rfl (lv_at hl 3 rfl) ?_
          refine lv_bipush (v := nI 31) hx hb dX0_encipher_32 (by decide) ?_
          refine wk_geN (tgt := 42) hx hb (a := r) (b := 31) (by omega) (by decide) dX0_encipher_34 (by decide) (fun c34 => ?_) (fun c34 => ?_)
          · refine lv_iinc (v := nI (r + 1)) (lv' := [(3, .int (nI (r + 1))), (0, .ref h0), (1, .ref w), (2, .int (nI at0))]) hx hb dX0_encipher_42 hl (k := 3) rfl (wk_inc r (by decide)) (by decide) rfl (fun ls hl => ?_)
            refine lv_goto (tgt := 2) hx hb dX0_encipher_45 (by decide) ?_
            rw [← cEncR_ge F (ld4 f at0) c34] at hP hD
            exact ih (r + 1) (by omega) (by omega) _ _ hP hD hS ls (lv_sub hl [1, 2, 3, 0] rfl)
          · refine lv_aload_n hx hb dX0_encipher_37 rfl (lv_at hl 1 rfl) ?_
            refine lv_iload_n hx hb dX0_encipher_38 rfl (lv_at hl 2 rfl) ?_
            refine wk_Sv (As := [.ref w, .int (nI at0)]) (rest := []) (wc := [(w, .inl (cI, n, .inl (st4 f at0 (cBox 0 (r % 8) (x4 (cEncR F (ld4 f at0) r) (ld4 F (8 + 4 * r)))))))]) (wr := [(h0, .inr (0, [.ref kw, .int kb, .int kr, .ref sc, .ref so, .ref tp, .int tl, .ref ct, .ref sr])), (sc, .inl (cI, 140, .inl F))]) (w1 := [(w, .inl (cI, n, .inl (st4 (st4 f at0 (cBox 0 (r % 8) (x4 (cEncR F (ld4 f at0) r) (ld4 F (8 + 4 * r))))) at0 (cMix (ld4 (st4 f at0 (cBox 0 (r % 8) (x4 (cEncR F (ld4 f at0) r) (ld4 F (8 + 4 * r))))) at0)))))]) (w2 := [(h0, .inr (0, [.ref kw, .int kb, .int kr, .ref sc, .ref so, .ref tp, .int tl, .ref ct, .ref sr])), (sc, .inl (cI, 140, .inl F)), (w, .inl (cI, n, .inl (st4 (st4 f at0 (cBox 0 (r % 8) (x4 (cEncR F (ld4 f at0) r) (ld4 F (8 + 4 * r))))) at0 (cMix (ld4 (st4 f at0 (cBox 0 (r % 8) (x4 (cEncR F (ld4 f at0) r) (ld4 F (8 + 4 * r))))) at0)))))]) ⟨hx, hb, hml, hown, hts⟩ (c_X0_mix l D cI _ w at0 n (st4 f at0 (cBox 0 (r % 8) (x4 (cEncR F (ld4 f at0) r) (ld4 F (8 + 4 * r))))) h1 h3) (va_cwS 2 hts gX0_encipher_X0_mix rfl rfl rfl (by decide +kernel) ⟨Nat.le_of_ble_eq_true rfl, Nat.le_of_ble_eq_true rfl⟩) (fun _ _ _ _ h => h) (fun _ _ _ _ => trivial) hK hP hD hS hA [2] [0, 1] rfl (by decide) rfl (by decide) (by decide) [0, 1, 2] rfl (by decide) rfl hl.1 rfl (Nat.le_of_ble_eq_true rfl) dX0_encipher_39 ⟨Nat.zero_le _, Nat.zero_le _⟩ (fun H locs hP hD hS => ?_)
            simp only [xb_eq, ld4_st4, st4_st4] at hP hD
            have hP : va_P D vwCl [(h0, .inr (0, [.ref kw, .int kb, .int kr, .ref sc, .ref so, .ref tp, .int tl, .ref ct, .ref sr])), (sc, .inl (cI, 140, .inl F)), (w, .inl (cI, n, .inl (st4 f at0 (cMix (cBox 0 (r % 8) (x4 (cEncR F (ld4 f at0) r) (ld4 F (8 + 4 * r))))))))] H := hP
            have hD : va_D A [(h0, .inr (0, [.ref kw, .int kb, .int kr, .ref sc, .ref so, .ref tp, .int tl, .ref ct, .ref sr])), (sc, .inl (cI, 140, .inl F)), (w, .inl (cI, n, .inl (st4 f at0 (cMix (cBox 0 (r % 8) (x4 (cEncR F (ld4 f at0) r) (ld4 F (8 + 4 * r))))))))] := hD
            refine lv_iinc (v := nI (r + 1)) (lv' := [(3, .int (nI (r + 1))), (0, .ref h0), (1, .ref w), (2, .int (nI at0))]) hx hb dX0_encipher_42 hl (k := 3) rfl (wk_inc r (by decide)) (by decide) rfl (fun ls hl => ?_)
            refine lv_goto (tgt := 2) hx hb dX0_encipher_45 (by decide) ?_
            rw [← cEncR_lt F (ld4 f at0) c34] at hP hD
            exact ih (r + 1) (by omega) (by omega) _ _ hP hD hS ls (lv_sub hl [1, 2, 3, 0] rfl)
  refine lv_iconst (v := nI 0) hx hb dX0_encipher_0 (by decide) ?_
  refine lv_istore_n (lv' := [(3, .int (nI 0)), (0, .ref h0), (1, .ref w), (2, .int (nI at0))]) hx hb dX0_encipher_1 rfl hl (by decide) rfl (fun ls hl => ?_)
  have hP : va_P D vwCl [(h0, .inr (0, [.ref kw, .int kb, .int kr, .ref sc, .ref so, .ref tp, .int tl, .ref ct, .ref sr])), (sc, .inl (cI, 140, .inl F)), (w, .inl (cI, n, .inl (st4 f at0 ((ld4 f at0)))))] s.heap := by rw [st4_ld4]; exact hP
  have hD : va_D A [(h0, .inr (0, [.ref kw, .int kb, .int kr, .ref sc, .ref so, .ref tp, .int tl, .ref ct, .ref sr])), (sc, .inl (cI, 140, .inl F)), (w, .inl (cI, n, .inl (st4 f at0 ((ld4 f at0)))))] := by rw [st4_ld4]; exact hD
  exact lp 33 0 (by omega) (by omega) _ _ hP hD hS ls (lv_sub hl [1, 2, 3, 0] rfl)
set_option maxRecDepth 100000 in
theorem in_X0_decipher : ∀ w ∈ wsX00, w ∈ wsX0_decipher := by decide +kernel
set_option maxHeartbeats 4000000 in
set_option maxRecDepth 100000 in
theorem c_X0_decipher (l : Launch) (D : va_G) (cI : ClassId) (tb : Nat) (sz : Nat) (h0 kw sc so tp ct sr : Nat) (kb kr tl : Int32) (w at0 n : Nat) (F f : Nat → Int32) (h1 : at0 + 4 ≤ n) (h3 : n < 2 ^ 31) : Met l yX0_decipher wsX0_decipher ({ frames := 3, cells := 0, slots := 0, locals := 77 }) (va_Pc [.ref h0, .ref w, .int (nI at0)] (fun U => PW D [(cI, .int)] [(h0, .inr (0, [.ref kw, .int kb, .int kr, .ref sc, .ref so, .ref tp, .int tl, .ref ct, .ref sr])), (sc, .inl (cI, 140, .inl F)), (w, .inl (cI, n, .inl f))] sz U ∧ bxs tb (va_A [(h0, .inr (0, [.ref kw, .int kb, .int kr, .ref sc, .ref so, .ref tp, .int tl, .ref ct, .ref sr])), (sc, .inl (cI, 140, .inl F)), (w, .inl (cI, n, .inl f))] sz) U U.heap)) (va_Qv (fun _ : Unit => True) (fun _ => BW D [(cI, .int)] (va_A [(h0, .inr (0, [.ref kw, .int kb, .int kr, .ref sc, .ref so, .ref tp, .int tl, .ref ct, .ref sr])), (sc, .inl (cI, 140, .inl F)), (w, .inl (cI, n, .inl f))] sz) [(h0, .inr (0, [.ref kw, .int kb, .int kr, .ref sc, .ref so, .ref tp, .int tl, .ref ct, .ref sr])), (sc, .inl (cI, 140, .inl F)), (w, .inl (cI, n, .inl (st4 f at0 (cDec F (ld4 f at0)))))]) (va_A [(h0, .inr (0, [.ref kw, .int kb, .int kr, .ref sc, .ref so, .ref tp, .int tl, .ref ct, .ref sr])), (sc, .inl (cI, 140, .inl F)), (w, .inl (cI, n, .inl f))] sz)) 0 0 (va_A [(h0, .inr (0, [.ref kw, .int kb, .int kr, .ref sc, .ref so, .ref tp, .int tl, .ref ct, .ref sr])), (sc, .inl (cI, 140, .inl F)), (w, .inl (cI, n, .inl f))] sz) := by
  refine Met.ofW (cc := cX0_decipher) (maxL := 4) (ret := none) (by decide) rfl ?_
  intro p e s m args below meth c s₁ B hml hv
  obtain ⟨rfl, ⟨hsz, hP, hK, hD0⟩, hbx⟩ := hv
  have hx := B.exec
  have hb := B.bytes
  have hr := B.returns
  have hts := atoms_spec (ws := wsX0_decipher) B.pre
  have hown : s.vm.findClass RX0 = some m.cls := findClass_of_methodNamed B.named
  have hlocks := B.notSynchronized
  subst hsz
  have hD := hD0.self (sz := s.heap.size)
  have hinX0 := in_X0_decipher
  generalize hAe : va_A [(h0, .inr (0, [.ref kw, .int kb, .int kr, .ref sc, .ref so, .ref tp, .int tl, .ref ct, .ref sr])), (sc, .inl (cI, 140, .inl F)), (w, .inl (cI, n, .inl f))] s.heap.size = A at hbx hD ⊢
  have hA : ∀ q : Nat, s.heap.size ≤ q → A q := fun q h => by rw [← hAe]; exact Or.inr h
  have hS : va_S A s.heap s.heap [] := va_S.rf
  have hl := lv_entry ([.ref h0, .ref w, .int (nI at0)]) (n := 4) (Nat.le_of_ble_eq_true rfl)
  rw [lg_entry_eq]
  generalize (lg_sl ([.ref h0, .ref w, .int (nI at0)]) ++ List.replicate (4 - (lg_sl ([.ref h0, .ref w, .int (nI at0)])).length) Slot.unset).toArray = ls at hl ⊢
  have hl : lv_has ls 4 [(0, .ref h0), (1, .ref w), (2, .int (nI at0))] := hl
  have lp : ∀ (fu : Nat) (j : Nat), j ≤ 32 → j + 1 ≤ fu → ∀ (H : Heap) (locs : List Loc), va_P D vwCl [(h0, .inr (0, [.ref kw, .int kb, .int kr, .ref sc, .ref so, .ref tp, .int tl, .ref ct, .ref sr])), (sc, .inl (cI, 140, .inl F)), (w, .inl (cI, n, .inl (st4 f at0 (cDecR F (ld4 f at0) (32 - j)))))] H → va_D A [(h0, .inr (0, [.ref kw, .int kb, .int kr, .ref sc, .ref so, .ref tp, .int tl, .ref ct, .ref sr])), (sc, .inl (cI, 140, .inl F)), (w, .inl (cI, n, .inl (st4 f at0 (cDecR F (ld4 f at0) (32 - j)))))] → va_S A s.heap H locs → ∀ (ls : Array Slot), lv_has ls 4 [(0, .ref h0), (1, .ref w), (2, .int (nI at0)), (3, .int (nI j + Int32.ofInt (-1)))] → W p l e ((headSpec wsX0_decipher ({ frames := 3, cells := 0, slots := 0, locals := 77 })).room) s m ([.ref h0, .ref w, .int (nI at0)] : List Value).toArray below meth c H locs 0 0 (MQ below (va_Qv (fun _ : Unit => True) (fun _ => BW D [(cI, .int)] A [(h0, .inr (0, [.ref kw, .int kb, .int kr, .ref sc, .ref so, .ref tp, .int tl, .ref ct, .ref sr])), (sc, .inl (cI, 140, .inl F)), (w, .inl (cI, n, .inl (st4 f at0 (cDec F (ld4 f at0)))))]) A) ([.ref h0, .ref w, .int (nI at0)] : List Value).toArray s 0 0 (A)) (F0 m 17 ls []) := by
    intro fu
    induction fu with
      | zero => intro j hi hfu; exact absurd hfu (by omega)
      | succ fu ih =>
        intro j hi hfu H locs hP hD hS ls hl
        rcases j with _ | j
        · refine lv_iload_n hx hb dX0_decipher_17 rfl (lv_at hl 3 rfl) ?_
          refine lv_if_lt (tgt := 61) hx hb dX0_decipher_18 (by decide) (fun c18 => ?_) (fun c18 => absurd c18 (by decide))
          exact W.vret hx hb hr (fun t ht hW => ⟨⟨(), rfl, trivial, by rw [ht]; exact hP, va_K.moved hW.alike hK, hD⟩, hS.F ht⟩) hS.2.2 dX0_decipher_61
        · rw [dec1 j] at hl
          refine lv_iload_n hx hb dX0_decipher_17 rfl (lv_at hl 3 rfl) ?_
          refine lv_if_lt (tgt := 61) hx hb dX0_decipher_18 (by decide) (fun c18 => absurd c18 (nI_pos (by omega))) (fun c18 => ?_)
          refine lv_iload_n hx hb dX0_decipher_21 rfl (lv_at hl 3 rfl) ?_
          refine lv_bipush (v := nI 31) hx hb dX0_decipher_22 (by decide) ?_
          refine wk_geN (tgt := 32) hx hb (a := j) (b := 31) (by omega) (by decide) dX0_decipher_24 (by decide) (fun c24 => ?_) (fun c24 => ?_)
          · refine lv_aload_n hx hb dX0_decipher_32 rfl (lv_at hl 1 rfl) ?_
            refine lv_iload_n hx hb dX0_decipher_33 rfl (lv_at hl 2 rfl) ?_
            refine lv_iload_n hx hb dX0_decipher_34 rfl (lv_at hl 3 rfl) ?_
            refine lv_bipush (v := nI 8) hx hb dX0_decipher_35 (by decide) ?_
            refine wk_iremN hx hb (a := j) (b := 8) (by omega) (by decide) (by decide) dX0_decipher_37 ?_
            refine lv_iconst (v := nI 1) hx hb dX0_decipher_38 (by decide) ?_
            refine wk_Sv (As := [.ref w, .int (nI at0), .int (nI (j % 8)), .int (nI 1)]) (rest := []) (wc := [(w, .inl (cI, n, .inl (st4 f at0 (cDecR F (ld4 f at0) (32 - (j + 1))))))]) (wr := [(h0, .inr (0, [.ref kw, .int kb, .int kr, .ref sc, .ref so, .ref tp, .int tl, .ref ct, .ref sr])), (sc, .inl (cI, 140, .inl F))]) (w1 := [(w, .inl (cI, n, .inl (st4 (st4 f at0 (cDecR F (ld4 f at0) (32 - (j + 1)))) at0 (cBox 1 (j % 8) (ld4 (st4 f at0 (cDecR F (ld4 f at0) (32 - (j + 1)))) at0)))))]) (w2 := [(h0, .inr (0, [.ref kw, .int kb, .int kr, .ref sc, .ref so, .ref tp, .int tl, .ref ct, .ref sr])), (sc, .inl (cI, 140, .inl F)), (w, .inl (cI, n, .inl (st4 (st4 f at0 (cDecR F (ld4 f at0) (32 - (j + 1)))) at0 (cBox 1 (j % 8) (ld4 (st4 f at0 (cDecR F (ld4 f at0) (32 - (j + 1)))) at0)))))]) ⟨hx, hb, hml, hown, hts⟩ (c_X0_passBox1 l D cI tb _ w at0 (j % 8) n (st4 f at0 (cDecR F (ld4 f at0) (32 - (j + 1)))) h1 (Nat.mod_lt _ (by decide)) h3) (va_cwS 4 hts gX0_decipher_X0_passBox rfl rfl rfl (by decide +kernel) ⟨Nat.le_of_ble_eq_true rfl, Nat.le_of_ble_eq_true rfl⟩) (fun U g mk a h => bxs.call g mk a h) (fun hF U hU hW => hbx.give hS hF hU hW) hK hP hD hS hA [2] [0, 1] rfl (by decide) rfl (by decide) (by decide) [0, 1, 2] rfl (by decide) rfl hl.1 rfl (Nat.le_of_ble_eq_true rfl) dX0_decipher_39 ⟨Nat.zero_le _, Nat.zero_le _⟩ (fun H locs hP hD hS => ?_)
            simp only [xb_eq, ld4_st4, st4_st4] at hP hD
            have hP : va_P D vwCl [(h0, .inr (0, [.ref kw, .int kb, .int kr, .ref sc, .ref so, .ref tp, .int tl, .ref ct, .ref sr])), (sc, .inl (cI, 140, .inl F)), (w, .inl (cI, n, .inl (st4 f at0 (cBox 1 (j % 8) (cDecR F (ld4 f at0) (32 - (j + 1)))))))] H := hP
            have hD : va_D A [(h0, .inr (0, [.ref kw, .int kb, .int kr, .ref sc, .ref so, .ref tp, .int tl, .ref ct, .ref sr])), (sc, .inl (cI, 140, .inl F)), (w, .inl (cI, n, .inl (st4 f at0 (cBox 1 (j % 8) (cDecR F (ld4 f at0) (32 - (j + 1)))))))] := hD
            refine lv_aload_n hx hb dX0_decipher_42 rfl (lv_at hl 1 rfl) ?_
            refine lv_iload_n hx hb dX0_decipher_43 rfl (lv_at hl 2 rfl) ?_
            refine lv_aload_n hx hb dX0_decipher_44 rfl (lv_at hl 0 rfl) ?_
            refine va_get (D := D) (ci := 0) (v := .ref sc) (C := RX0) (T := TX0) (N := 9) hx hb hts hinX0 hown hK hP 0 rfl rfl 3 (by decide) (hts (.fieldLink RX0 13 "SlicedCipher" "schedule" "[I") (by decide +kernel)) (fun _ h9 => h9) rfl dX0_decipher_45 ?_
            refine lv_iload_n hx hb dX0_decipher_48 rfl (lv_at hl 3 rfl) ?_
            refine wk_Sp (v := nI (8 + 4 * j)) (As := [.int (nI j)]) (rest := [.ref sc, .int (nI at0), .ref w]) ⟨hx, hb, hml, hown, hts⟩ (c_X0_roundKeyAt l j) (va_cwS 1 hts gX0_decipher_X0_roundKeyAt rfl rfl rfl (by decide +kernel) ⟨Nat.le_of_ble_eq_true rfl, Nat.le_of_ble_eq_true rfl⟩) rfl hl.1 rfl (Nat.le_of_ble_eq_true rfl) dX0_decipher_49 ⟨Nat.zero_le _, Nat.zero_le _⟩ ?_
            refine wk_Sv (As := [.ref w, .int (nI at0), .ref sc, .int (nI (8 + 4 * j))]) (rest := []) (wc := [(w, .inl (cI, n, .inl (st4 f at0 (cBox 1 (j % 8) (cDecR F (ld4 f at0) (32 - (j + 1))))))), (sc, .inl (cI, 140, .inl F))]) (wr := [(h0, .inr (0, [.ref kw, .int kb, .int kr, .ref sc, .ref so, .ref tp, .int tl, .ref ct, .ref sr]))]) (w1 := [(w, .inl (cI, n, .inl (xbF (st4 f at0 (cBox 1 (j % 8) (cDecR F (ld4 f at0) (32 - (j + 1))))) at0 F (8 + 4 * j) 4))), (sc, .inl (cI, 140, .inl F))]) (w2 := [(h0, .inr (0, [.ref kw, .int kb, .int kr, .ref sc, .ref so, .ref tp, .int tl, .ref ct, .ref sr])), (sc, .inl (cI, 140, .inl F)), (w, .inl (cI, n, .inl (xbF (st4 f at0 (cBox 1 (j % 8) (cDecR F (ld4 f at0) (32 - (j + 1))))) at0 F (8 + 4 * j) 4)))]) ⟨hx, hb, hml, hown, hts⟩ (c_X0_xorBlock l D cI _ w at0 sc (8 + 4 * j) n 140 (st4 f at0 (cBox 1 (j % 8) (cDecR F (ld4 f at0) (32 - (j + 1))))) F h1 (by omega) h3 (by decide)) (va_cwS 4 hts gX0_decipher_X0_xorBlock rfl rfl rfl (by decide +kernel) ⟨Nat.le_of_ble_eq_true rfl, Nat.le_of_ble_eq_true rfl⟩) (fun _ _ _ _ h => h) (fun _ _ _ _ => trivial) hK hP hD hS hA [2, 1] [0] rfl (by decide) rfl (by decide) (by decide) [0, 2, 1] rfl (by decide) rfl hl.1 rfl (Nat.le_of_ble_eq_true rfl) dX0_decipher_52 ⟨Nat.zero_le _, Nat.zero_le _⟩ (fun H locs hP hD hS => ?_)
            simp only [xb_eq, ld4_st4, st4_st4] at hP hD
            have hP : va_P D vwCl [(h0, .inr (0, [.ref kw, .int kb, .int kr, .ref sc, .ref so, .ref tp, .int tl, .ref ct, .ref sr])), (sc, .inl (cI, 140, .inl F)), (w, .inl (cI, n, .inl (st4 f at0 (x4 (cBox 1 (j % 8) (cDecR F (ld4 f at0) (32 - (j + 1)))) (ld4 F (8 + 4 * j))))))] H := hP
            have hD : va_D A [(h0, .inr (0, [.ref kw, .int kb, .int kr, .ref sc, .ref so, .ref tp, .int tl, .ref ct, .ref sr])), (sc, .inl (cI, 140, .inl F)), (w, .inl (cI, n, .inl (st4 f at0 (x4 (cBox 1 (j % 8) (cDecR F (ld4 f at0) (32 - (j + 1)))) (ld4 F (8 + 4 * j))))))] := hD
            refine lv_iinc (v := nI j + Int32.ofInt (-1)) (lv' := [(3, .int (nI j + Int32.ofInt (-1))), (0, .ref h0), (1, .ref w), (2, .int (nI at0))]) hx hb dX0_decipher_55 hl (k := 3) rfl rfl (by decide) rfl (fun ls hl => ?_)
            refine lv_goto (tgt := 17) hx hb dX0_decipher_58 (by decide) ?_
            rw [← cDecR_ge F (ld4 f at0) c24 (by omega)] at hP hD
            exact ih j (by omega) (by omega) _ _ hP hD hS ls (lv_sub hl [1, 2, 3, 0] rfl)
          · refine lv_aload_n hx hb dX0_decipher_27 rfl (lv_at hl 1 rfl) ?_
            refine lv_iload_n hx hb dX0_decipher_28 rfl (lv_at hl 2 rfl) ?_
            refine wk_Sv (As := [.ref w, .int (nI at0)]) (rest := []) (wc := [(w, .inl (cI, n, .inl (st4 f at0 (cDecR F (ld4 f at0) (32 - (j + 1))))))]) (wr := [(h0, .inr (0, [.ref kw, .int kb, .int kr, .ref sc, .ref so, .ref tp, .int tl, .ref ct, .ref sr])), (sc, .inl (cI, 140, .inl F))]) (w1 := [(w, .inl (cI, n, .inl (st4 (st4 f at0 (cDecR F (ld4 f at0) (32 - (j + 1)))) at0 (cUnmix (ld4 (st4 f at0 (cDecR F (ld4 f at0) (32 - (j + 1)))) at0)))))]) (w2 := [(h0, .inr (0, [.ref kw, .int kb, .int kr, .ref sc, .ref so, .ref tp, .int tl, .ref ct, .ref sr])), (sc, .inl (cI, 140, .inl F)), (w, .inl (cI, n, .inl (st4 (st4 f at0 (cDecR F (ld4 f at0) (32 - (j + 1)))) at0 (cUnmix (ld4 (st4 f at0 (cDecR F (ld4 f at0) (32 - (j + 1)))) at0)))))]) ⟨hx, hb, hml, hown, hts⟩ (c_X0_unmix l D cI _ w at0 n (st4 f at0 (cDecR F (ld4 f at0) (32 - (j + 1)))) h1 h3) (va_cwS 2 hts gX0_decipher_X0_unmix rfl rfl rfl (by decide +kernel) ⟨Nat.le_of_ble_eq_true rfl, Nat.le_of_ble_eq_true rfl⟩) (fun _ _ _ _ h => h) (fun _ _ _ _ => trivial) hK hP hD hS hA [2] [0, 1] rfl (by decide) rfl (by decide) (by decide) [0, 1, 2] rfl (by decide) rfl hl.1 rfl (Nat.le_of_ble_eq_true rfl) dX0_decipher_29 ⟨Nat.zero_le _, Nat.zero_le _⟩ (fun H locs hP hD hS => ?_)
            simp only [xb_eq, ld4_st4, st4_st4] at hP hD
            have hP : va_P D vwCl [(h0, .inr (0, [.ref kw, .int kb, .int kr, .ref sc, .ref so, .ref tp, .int tl, .ref ct, .ref sr])), (sc, .inl (cI, 140, .inl F)), (w, .inl (cI, n, .inl (st4 f at0 (cUnmix (cDecR F (ld4 f at0) (32 - (j + 1)))))))] H := hP
            have hD : va_D A [(h0, .inr (0, [.ref kw, .int kb, .int kr, .ref sc, .ref so, .ref tp, .int tl, .ref ct, .ref sr])), (sc, .inl (cI, 140, .inl F)), (w, .inl (cI, n, .inl (st4 f at0 (cUnmix (cDecR F (ld4 f at0) (32 - (j + 1)))))))] := hD
            refine lv_aload_n hx hb dX0_decipher_32 rfl (lv_at hl 1 rfl) ?_
            refine lv_iload_n hx hb dX0_decipher_33 rfl (lv_at hl 2 rfl) ?_
            refine lv_iload_n hx hb dX0_decipher_34 rfl (lv_at hl 3 rfl) ?_
            refine lv_bipush (v := nI 8) hx hb dX0_decipher_35 (by decide) ?_
            refine wk_iremN hx hb (a := j) (b := 8) (by omega) (by decide) (by decide) dX0_decipher_37 ?_
            refine lv_iconst (v := nI 1) hx hb dX0_decipher_38 (by decide) ?_
            refine wk_Sv (As := [.ref w, .int (nI at0), .int (nI (j % 8)), .int (nI 1)]) (rest := []) (wc := [(w, .inl (cI, n, .inl (st4 f at0 (cUnmix (cDecR F (ld4 f at0) (32 - (j + 1)))))))]) (wr := [(h0, .inr (0, [.ref kw, .int kb, .int kr, .ref sc, .ref so, .ref tp, .int tl, .ref ct, .ref sr])), (sc, .inl (cI, 140, .inl F))]) (w1 := [(w, .inl (cI, n, .inl (st4 (st4 f at0 (cUnmix (cDecR F (ld4 f at0) (32 - (j + 1))))) at0 (cBox 1 (j % 8) (ld4 (st4 f at0 (cUnmix (cDecR F (ld4 f at0) (32 - (j + 1))))) at0)))))]) (w2 := [(h0, .inr (0, [.ref kw, .int kb, .int kr, .ref sc, .ref so, .ref tp, .int tl, .ref ct, .ref sr])), (sc, .inl (cI, 140, .inl F)), (w, .inl (cI, n, .inl (st4 (st4 f at0 (cUnmix (cDecR F (ld4 f at0) (32 - (j + 1))))) at0 (cBox 1 (j % 8) (ld4 (st4 f at0 (cUnmix (cDecR F (ld4 f at0) (32 - (j + 1))))) at0)))))]) ⟨hx, hb, hml, hown, hts⟩ (c_X0_passBox1 l D cI tb _ w at0 (j % 8) n (st4 f at0 (cUnmix (cDecR F (ld4 f at0) (32 - (j + 1))))) h1 (Nat.mod_lt _ (by decide)) h3) (va_cwS 4 hts gX0_decipher_X0_passBox rfl rfl rfl (by decide +kernel) ⟨Nat.le_of_ble_eq_true rfl, Nat.le_of_ble_eq_true rfl⟩) (fun U g mk a h => bxs.call g mk a h) (fun hF U hU hW => hbx.give hS hF hU hW) hK hP hD hS hA [2] [0, 1] rfl (by decide) rfl (by decide) (by decide) [0, 1, 2] rfl (by decide) rfl hl.1 rfl (Nat.le_of_ble_eq_true rfl) dX0_decipher_39 ⟨Nat.zero_le _, Nat.zero_le _⟩ (fun H locs hP hD hS => ?_)
            simp only [xb_eq, ld4_st4, st4_st4] at hP hD
            have hP : va_P D vwCl [(h0, .inr (0, [.ref kw, .int kb, .int kr, .ref sc, .ref so, .ref tp, .int tl, .ref ct, .ref sr])), (sc, .inl (cI, 140, .inl F)), (w, .inl (cI, n, .inl (st4 f at0 (cBox 1 (j % 8) (cUnmix (cDecR F (ld4 f at0) (32 - (j + 1))))))))] H := hP
            have hD : va_D A [(h0, .inr (0, [.ref kw, .int kb, .int kr, .ref sc, .ref so, .ref tp, .int tl, .ref ct, .ref sr])), (sc, .inl (cI, 140, .inl F)), (w, .inl (cI, n, .inl (st4 f at0 (cBox 1 (j % 8) (cUnmix (cDecR F (ld4 f at0) (32 - (j + 1))))))))] := hD
            refine lv_aload_n hx hb dX0_decipher_42 rfl (lv_at hl 1 rfl) ?_
            refine lv_iload_n hx hb dX0_decipher_43 rfl (lv_at hl 2 rfl) ?_
            refine lv_aload_n hx hb dX0_decipher_44 rfl (lv_at hl 0 rfl) ?_
            refine va_get (D := D) (ci := 0) (v := .ref sc) (C := RX0) (T := TX0) (N := 9) hx hb hts hinX0 hown hK hP 0 rfl rfl 3 (by decide) (hts (.fieldLink RX0 13 "SlicedCipher" "schedule" "[I") (by decide +kernel)) (fun _ h9 => h9) rfl dX0_decipher_45 ?_
            refine lv_iload_n hx hb dX0_decipher_48 rfl (lv_at hl 3 rfl) ?_
            refine wk_Sp (v := nI (8 + 4 * j)) (As := [.int (nI j)]) (rest := [.ref sc, .int (nI at0), .ref w]) ⟨hx, hb, hml, hown, hts⟩ (c_X0_roundKeyAt l j) (va_cwS 1 hts gX0_decipher_X0_roundKeyAt rfl rfl rfl (by decide +kernel) ⟨Nat.le_of_ble_eq_true rfl, Nat.le_of_ble_eq_true rfl⟩) rfl hl.1 rfl (Nat.le_of_ble_eq_true rfl) dX0_decipher_49 ⟨Nat.zero_le _, Nat.zero_le _⟩ ?_
            refine wk_Sv (As := [.ref w, .int (nI at0), .ref sc, .int (nI (8 + 4 * j))]) (rest := []) (wc := [(w, .inl (cI, n, .inl (st4 f at0 (cBox 1 (j % 8) (cUnmix (cDecR F (ld4 f at0) (32 - (j + 1)))))))), (sc, .inl (cI, 140, .inl F))]) (wr := [(h0, .inr (0, [.ref kw, .int kb, .int kr, .ref sc, .ref so, .ref tp, .int tl, .ref ct, .ref sr]))]) (w1 := [(w, .inl (cI, n, .inl (xbF (st4 f at0 (cBox 1 (j % 8) (cUnmix (cDecR F (ld4 f at0) (32 - (j + 1)))))) at0 F (8 + 4 * j) 4))), (sc, .inl (cI, 140, .inl F))]) (w2 := [(h0, .inr (0, [.ref kw, .int kb, .int kr, .ref sc, .ref so, .ref tp, .int tl, .ref ct, .ref sr])), (sc, .inl (cI, 140, .inl F)), (w, .inl (cI, n, .inl (xbF (st4 f at0 (cBox 1 (j % 8) (cUnmix (cDecR F (ld4 f at0) (32 - (j + 1)))))) at0 F (8 + 4 * j) 4)))]) ⟨hx, hb, hml, hown, hts⟩ (c_X0_xorBlock l D cI _ w at0 sc (8 + 4 * j) n 140 (st4 f at0 (cBox 1 (j % 8) (cUnmix (cDecR F (ld4 f at0) (32 - (j + 1)))))) F h1 (by omega) h3 (by decide)) (va_cwS 4 hts gX0_decipher_X0_xorBlock rfl rfl rfl (by decide +kernel) ⟨Nat.le_of_ble_eq_true rfl, Nat.le_of_ble_eq_true rfl⟩) (fun _ _ _ _ h => h) (fun _ _ _ _ => trivial) hK hP hD hS hA [2, 1] [0] rfl (by decide) rfl (by decide) (by decide) [0, 2, 1] rfl (by decide) rfl hl.1 rfl (Nat.le_of_ble_eq_true rfl) dX0_decipher_52 ⟨Nat.zero_le _, Nat.zero_le _⟩ (fun H locs hP hD hS => ?_)
            simp only [xb_eq, ld4_st4, st4_st4] at hP hD
            have hP : va_P D vwCl [(h0, .inr (0, [.ref kw, .int kb, .int kr, .ref sc, .ref so, .ref tp, .int tl, .ref ct, .ref sr])), (sc, .inl (cI, 140, .inl F)), (w, .inl (cI, n, .inl (st4 f at0 (x4 (cBox 1 (j % 8) (cUnmix (cDecR F (ld4 f at0) (32 - (j + 1))))) (ld4 F (8 + 4 * j))))))] H := hP
            have hD : va_D A [(h0, .inr (0, [.ref kw, .int kb, .int kr, .ref sc, .ref so, .ref tp, .int tl, .ref ct, .ref sr])), (sc, .inl (cI, 140, .inl F)), (w, .inl (cI, n, .inl (st4 f at0 (x4 (cBox 1 (j % 8) (cUnmix (cDecR F (ld4 f at0) (32 - (j + 1))))) (ld4 F (8 + 4 * j))))))] := hD
            refine lv_iinc (v := nI j + Int32.ofInt (-1)) (lv' := [(3, .int (nI j + Int32.ofInt (-1))), (0, .ref h0), (1, .ref w), (2, .int (nI at0))]) hx hb dX0_decipher_55 hl (k := 3) rfl rfl (by decide) rfl (fun ls hl => ?_)
            refine lv_goto (tgt := 17) hx hb dX0_decipher_58 (by decide) ?_
            rw [← cDecR_lt F (ld4 f at0) c24] at hP hD
            exact ih j (by omega) (by omega) _ _ hP hD hS ls (lv_sub hl [1, 2, 3, 0] rfl)
  have hP : va_P D vwCl [(h0, .inr (0, [.ref kw, .int kb, .int kr, .ref sc, .ref so, .ref tp, .int tl, .ref ct, .ref sr])), (sc, .inl (cI, 140, .inl F)), (w, .inl (cI, n, .inl (st4 f at0 ((ld4 f at0)))))] s.heap := by rw [st4_ld4]; exact hP
  have hD : va_D A [(h0, .inr (0, [.ref kw, .int kb, .int kr, .ref sc, .ref so, .ref tp, .int tl, .ref ct, .ref sr])), (sc, .inl (cI, 140, .inl F)), (w, .inl (cI, n, .inl (st4 f at0 ((ld4 f at0)))))] := by rw [st4_ld4]; exact hD
  refine lv_aload_n hx hb dX0_decipher_0 rfl (lv_at hl 1 rfl) ?_
  refine lv_iload_n hx hb dX0_decipher_1 rfl (lv_at hl 2 rfl) ?_
  refine lv_aload_n hx hb dX0_decipher_2 rfl (lv_at hl 0 rfl) ?_
  refine va_get (D := D) (ci := 0) (v := .ref sc) (C := RX0) (T := TX0) (N := 9) hx hb hts hinX0 hown hK hP 0 rfl rfl 3 (by decide) (hts (.fieldLink RX0 13 "SlicedCipher" "schedule" "[I") (by decide +kernel)) (fun _ h9 => h9) rfl dX0_decipher_3 ?_
  refine lv_bipush (v := nI 32) hx hb dX0_decipher_6 (by decide) ?_
  refine wk_Sp (v := nI (8 + 4 * 32)) (As := [.int (nI 32)]) (rest := [.ref sc, .int (nI at0), .ref w]) ⟨hx, hb, hml, hown, hts⟩ (c_X0_roundKeyAt l 32) (va_cwS 1 hts gX0_decipher_X0_roundKeyAt rfl rfl rfl (by decide +kernel) ⟨Nat.le_of_ble_eq_true rfl, Nat.le_of_ble_eq_true rfl⟩) rfl hl.1 rfl (Nat.le_of_ble_eq_true rfl) dX0_decipher_8 ⟨Nat.zero_le _, Nat.zero_le _⟩ ?_
  refine wk_Sv (As := [.ref w, .int (nI at0), .ref sc, .int (nI (8 + 4 * 32))]) (rest := []) (wc := [(w, .inl (cI, n, .inl (st4 f at0 ((ld4 f at0))))), (sc, .inl (cI, 140, .inl F))]) (wr := [(h0, .inr (0, [.ref kw, .int kb, .int kr, .ref sc, .ref so, .ref tp, .int tl, .ref ct, .ref sr]))]) (w1 := [(w, .inl (cI, n, .inl (xbF (st4 f at0 ((ld4 f at0))) at0 F (8 + 4 * 32) 4))), (sc, .inl (cI, 140, .inl F))]) (w2 := [(h0, .inr (0, [.ref kw, .int kb, .int kr, .ref sc, .ref so, .ref tp, .int tl, .ref ct, .ref sr])), (sc, .inl (cI, 140, .inl F)), (w, .inl (cI, n, .inl (xbF (st4 f at0 ((ld4 f at0))) at0 F (8 + 4 * 32) 4)))]) ⟨hx, hb, hml, hown, hts⟩ (c_X0_xorBlock l D cI _ w at0 sc (8 + 4 * 32) n 140 (st4 f at0 ((ld4 f at0))) F h1 (by omega) h3 (by decide)) (va_cwS 4 hts gX0_decipher_X0_xorBlock rfl rfl rfl (by decide +kernel) ⟨Nat.le_of_ble_eq_true rfl, Nat.le_of_ble_eq_true rfl⟩) (fun _ _ _ _ h => h) (fun _ _ _ _ => trivial) hK hP hD hS hA [2, 1] [0] rfl (by decide) rfl (by decide) (by decide) [0, 2, 1] rfl (by decide) rfl hl.1 rfl (Nat.le_of_ble_eq_true rfl) dX0_decipher_11 ⟨Nat.zero_le _, Nat.zero_le _⟩ (fun H locs hP hD hS => ?_)
  simp only [xb_eq, ld4_st4, st4_st4] at hP hD
  have hP : va_P D vwCl [(h0, .inr (0, [.ref kw, .int kb, .int kr, .ref sc, .ref so, .ref tp, .int tl, .ref ct, .ref sr])), (sc, .inl (cI, 140, .inl F)), (w, .inl (cI, n, .inl (st4 f at0 (x4 ((ld4 f at0)) (ld4 F (8 + 4 * 32))))))] H := hP
  have hD : va_D A [(h0, .inr (0, [.ref kw, .int kb, .int kr, .ref sc, .ref so, .ref tp, .int tl, .ref ct, .ref sr])), (sc, .inl (cI, 140, .inl F)), (w, .inl (cI, n, .inl (st4 f at0 (x4 ((ld4 f at0)) (ld4 F (8 + 4 * 32))))))] := hD
  refine lv_bipush (v := nI 31) hx hb dX0_decipher_14 (by decide) ?_
  refine lv_istore_n (lv' := [(3, .int (nI 31)), (0, .ref h0), (1, .ref w), (2, .int (nI at0))]) hx hb dX0_decipher_16 rfl hl (by decide) rfl (fun ls hl => ?_)
  exact lp 33 32 (by omega) (by omega) _ _ hP hD hS ls (lv_sub hl [1, 2, 3, 0] rfl)
