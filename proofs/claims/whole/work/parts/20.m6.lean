def mRd (Rn Wd : Nat → Int32) : Nat → Nat → Int32
  | 0 => Rn
  | r + 1 => st4 (mRd Rn Wd r) (4 * r) (cBox 0 ((35 - r) % 8) (ld4 Wd (8 + 4 * r)))
theorem cSp_succ (F : Nat → Int32) (i : Nat) : upd (cSp F i) (i + 8) (rotL (((((((cSp F i i) ^^^ (cSp F i (i + 3))) ^^^ (cSp F i (i + 5))) ^^^ (cSp F i (i + 7))) ^^^ (-1640531527))) ^^^ nI i) (nI 11)) = cSp F (i + 1) := by
  show _ = upd (cSp F i) (i + 8) (rotL ((((((cSp F i ((i + 8) - 8)) ^^^ (cSp F i ((i + 8) - 5))) ^^^ (cSp F i ((i + 8) - 3))) ^^^ (cSp F i ((i + 8) - 1))) ^^^ (-1640531527)) ^^^ nI i) (nI 11))
  rw [show i + 8 - 8 = i from by omega, show i + 8 - 5 = i + 3 from by omega, show i + 8 - 3 = i + 5 from by omega, show i + 8 - 1 = i + 7 from by omega]
/-- the block before, chained: as it is enciphered -/
def pvB (F S f : Nat → Int32) : Nat → Qd
  | 0 => ld4 S 0
  | k + 1 => ld4 (cChain F S f (k + 1)) (4 * k)
theorem cChain_s (F S f : Nat → Int32) (k : Nat) : cChain F S f (k + 1) = st4 (cChain F S f k) (4 * k) (cEnc F (x4 (ld4 (cChain F S f k) (4 * k)) (pvB F S f k))) := by
  have h : cPrev S (cChain F S f k) k = st4 (cChain F S f k) (4 * k) (x4 (ld4 (cChain F S f k) (4 * k)) (pvB F S f k)) := by
    cases k <;> rfl
  show st4 (cPrev S (cChain F S f k) k) (4 * k) (cEnc F (ld4 (cPrev S (cChain F S f k) k) (4 * k))) = _
  rw [h, ld4_st4, st4_st4]
theorem pvB_s (F S f : Nat → Int32) (k : Nat) : pvB F S f (k + 1) = cEnc F (x4 (ld4 (cChain F S f k) (4 * k)) (pvB F S f k)) := by
  show ld4 (cChain F S f (k + 1)) (4 * k) = _
  rw [cChain_s, ld4_st4]
/-- .. and back: the reference goes from the first block on -/
def pvU (S f : Nat → Int32) : Nat → Qd
  | 0 => ld4 S 0
  | k + 1 => ld4 f (4 * k)
def mUn (F S f : Nat → Int32) : Nat → Nat → Int32
  | 0 => f
  | k + 1 => st4 (mUn F S f k) (4 * k) (x4 (cDec F (ld4 f (4 * k))) (pvU S f k))
theorem st4_out (f : Nat → Int32) {a j : Nat} (x : Qd) (h : j < a ∨ a + 4 ≤ j) : st4 f a x j = f j := by
  unfold st4 upd
  rw [if_neg (by omega), if_neg (by omega), if_neg (by omega), if_neg (by omega)]
theorem mUn_out (F S f : Nat → Int32) : ∀ (k j : Nat), 4 * k ≤ j → mUn F S f k j = f j := by
  intro k
  induction k with
  | zero => intro j _; rfl
  | succ k ih =>
    intro j hj
    show st4 (mUn F S f k) (4 * k) _ j = f j
    rw [st4_out _ _ (by omega)]
    exact ih j (by omega)
theorem mUn_ld (F S f : Nat → Int32) (k : Nat) : ld4 (mUn F S f k) (4 * k) = ld4 f (4 * k) := by
  unfold ld4
  rw [mUn_out _ _ _ k _ (by omega), mUn_out _ _ _ k _ (by omega), mUn_out _ _ _ k _ (by omega), mUn_out _ _ _ k _ (by omega)]
/-- the seal -/
def slQ (F f : Nat → Int32) : Nat → Qd
  | 0 => (nI 0, nI 0, nI 0, nI 0)
  | k + 1 => cEnc F (x4 (ld4 f (4 * k)) (slQ F f k))
def slB (b f z : Nat → Int32) (a : Nat) : Nat → Nat → Int32
  | 0 => b
  | j + 1 => upd (slB b f z a j) j (f (a + j) ^^^ z j)
theorem slB_4 (b f z : Nat → Int32) (a : Nat) : slB b f z a 4 = st4 b 0 (x4 (ld4 f a) (ld4 z 0)) := rfl
theorem qs_ld4 (z : Nat → Int32) {j : Nat} (h : j < 4) : qs (ld4 z 0) j = z j := by
  rcases (show j = 0 ∨ j = 1 ∨ j = 2 ∨ j = 3 by omega) with rfl | rfl | rfl | rfl <;> rfl
set_option maxRecDepth 100000 in
theorem in_X1_ready : ∀ w ∈ wsX10, w ∈ wsX1_ready := by decide +kernel
set_option maxHeartbeats 4000000 in
set_option maxRecDepth 100000 in
theorem c_X1_ready (l : Launch) (D : va_G) (cI : ClassId) (sz : Nat) (h0 a1 a4 a5 a6 a7 a9 a10 a11 a12 : Nat) (th rd zz : Int32) (kb : Nat) (K Wo Rn b d : Nat → Int32) (h2 : kb ≤ 32) : Met l yX1_ready wsX1_ready ({ frames := 2, cells := 0, slots := 0, locals := 49 }) (va_Pc [.ref h0] (fun U => PW D [(cI, .int)] [(h0, .inr (1, [.int th, .ref a1, .int (nI kb), .int rd, .ref a4, .ref a5, .ref a6, .ref a7, .int zz, .ref a9, .ref a10, .ref a11, .ref a12])), (a1, .inl (cI, 8, .inl K)), (a4, .inl (cI, 140, .inl Wo)), (a5, .inl (cI, 132, .inl Rn)), (a9, .inl (cI, 128, .inl TB)), (a10, .inl (cI, 4, .inl b)), (a11, .inl (cI, 4, .inl d))] sz U ∧ True)) (va_Qv (fun _ : Nat → Nat → Int32 => True) (fun u => BW D [(cI, .int)] (va_A [(h0, .inr (1, [.int th, .ref a1, .int (nI kb), .int rd, .ref a4, .ref a5, .ref a6, .ref a7, .int zz, .ref a9, .ref a10, .ref a11, .ref a12])), (a1, .inl (cI, 8, .inl K)), (a4, .inl (cI, 140, .inl Wo)), (a5, .inl (cI, 132, .inl Rn)), (a9, .inl (cI, 128, .inl TB)), (a10, .inl (cI, 4, .inl b)), (a11, .inl (cI, 4, .inl d))] sz) [(h0, .inr (1, [.int (nI 0), .ref a1, .int (nI kb), .int (nI 1), .ref a4, .ref a5, .ref a6, .ref a7, .int zz, .ref a9, .ref a10, .ref a11, .ref a12])), (a1, .inl (cI, 8, .inl K)), (a4, .inl (cI, 140, .inl (cSp (cR1 Wo K kb 8) 132))), (a5, .inl (cI, 132, .inl (mRd Rn (cSp (cR1 Wo K kb 8) 132) 33))), (a9, .inl (cI, 128, .inl TB)), (a10, .inl (cI, 4, .inl (u 0))), (a11, .inl (cI, 4, .inl (u 1)))]) (va_A [(h0, .inr (1, [.int th, .ref a1, .int (nI kb), .int rd, .ref a4, .ref a5, .ref a6, .ref a7, .int zz, .ref a9, .ref a10, .ref a11, .ref a12])), (a1, .inl (cI, 8, .inl K)), (a4, .inl (cI, 140, .inl Wo)), (a5, .inl (cI, 132, .inl Rn)), (a9, .inl (cI, 128, .inl TB)), (a10, .inl (cI, 4, .inl b)), (a11, .inl (cI, 4, .inl d))] sz)) 0 0 (va_A [(h0, .inr (1, [.int th, .ref a1, .int (nI kb), .int rd, .ref a4, .ref a5, .ref a6, .ref a7, .int zz, .ref a9, .ref a10, .ref a11, .ref a12])), (a1, .inl (cI, 8, .inl K)), (a4, .inl (cI, 140, .inl Wo)), (a5, .inl (cI, 132, .inl Rn)), (a9, .inl (cI, 128, .inl TB)), (a10, .inl (cI, 4, .inl b)), (a11, .inl (cI, 4, .inl d))] sz) := by
  refine Met.ofW (cc := cX1_ready) (maxL := 3) (ret := none) (by decide) rfl ?_
  intro p e s m args below meth c s₁ B hml hv
  obtain ⟨rfl, ⟨hsz, hP, hK, hD0⟩, -⟩ := hv
  have hx := B.exec
  have hb := B.bytes
  have hr := B.returns
  have hts := atoms_spec (ws := wsX1_ready) B.pre
  have hown : s.vm.findClass RX1 = some m.cls := findClass_of_methodNamed B.named
  have hlocks := B.notSynchronized
  subst hsz
  have hD := hD0.self (sz := s.heap.size)
  have hinX1 := in_X1_ready
  generalize hAe : va_A [(h0, .inr (1, [.int th, .ref a1, .int (nI kb), .int rd, .ref a4, .ref a5, .ref a6, .ref a7, .int zz, .ref a9, .ref a10, .ref a11, .ref a12])), (a1, .inl (cI, 8, .inl K)), (a4, .inl (cI, 140, .inl Wo)), (a5, .inl (cI, 132, .inl Rn)), (a9, .inl (cI, 128, .inl TB)), (a10, .inl (cI, 4, .inl b)), (a11, .inl (cI, 4, .inl d))] s.heap.size = A at hD ⊢
  have hA : ∀ q : Nat, s.heap.size ≤ q → A q := fun q h => by rw [← hAe]; exact Or.inr h
  have hS : va_S A s.heap s.heap [] := va_S.rf
  have hl := lv_entry ([.ref h0]) (n := 3) (Nat.le_of_ble_eq_true rfl)
  rw [lg_entry_eq]
  generalize (lg_sl ([.ref h0]) ++ List.replicate (3 - (lg_sl ([.ref h0])).length) Slot.unset).toArray = ls at hl ⊢
  have hl : lv_has ls 3 [(0, .ref h0)] := hl
  have lp3 : ∀ (fu : Nat) (r : Nat) (b d : Nat → Int32), r ≤ 33 → 34 ≤ r + fu → ∀ (H : Heap) (locs : List Loc), va_P D vwCl [(h0, .inr (1, [.int (nI 0), .ref a1, .int (nI kb), .int rd, .ref a4, .ref a5, .ref a6, .ref a7, .int zz, .ref a9, .ref a10, .ref a11, .ref a12])), (a1, .inl (cI, 8, .inl K)), (a4, .inl (cI, 140, .inl (cSp (cR1 Wo K kb 8) 132))), (a5, .inl (cI, 132, .inl (mRd Rn (cSp (cR1 Wo K kb 8) 132) r))), (a9, .inl (cI, 128, .inl TB)), (a10, .inl (cI, 4, .inl b)), (a11, .inl (cI, 4, .inl d))] H → va_D A [(h0, .inr (1, [.int (nI 0), .ref a1, .int (nI kb), .int rd, .ref a4, .ref a5, .ref a6, .ref a7, .int zz, .ref a9, .ref a10, .ref a11, .ref a12])), (a1, .inl (cI, 8, .inl K)), (a4, .inl (cI, 140, .inl (cSp (cR1 Wo K kb 8) 132))), (a5, .inl (cI, 132, .inl (mRd Rn (cSp (cR1 Wo K kb 8) 132) r))), (a9, .inl (cI, 128, .inl TB)), (a10, .inl (cI, 4, .inl b)), (a11, .inl (cI, 4, .inl d))] → va_S A s.heap H locs → ∀ (ls : Array Slot), lv_has ls 3 [(0, .ref h0), (1, .int (nI r))] → W p l e ((headSpec wsX1_ready ({ frames := 2, cells := 0, slots := 0, locals := 49 })).room) s m ([.ref h0] : List Value).toArray below meth c H locs 0 0 (MQ below (va_Qv (fun _ : Nat → Nat → Int32 => True) (fun u => BW D [(cI, .int)] A [(h0, .inr (1, [.int (nI 0), .ref a1, .int (nI kb), .int (nI 1), .ref a4, .ref a5, .ref a6, .ref a7, .int zz, .ref a9, .ref a10, .ref a11, .ref a12])), (a1, .inl (cI, 8, .inl K)), (a4, .inl (cI, 140, .inl (cSp (cR1 Wo K kb 8) 132))), (a5, .inl (cI, 132, .inl (mRd Rn (cSp (cR1 Wo K kb 8) 132) 33))), (a9, .inl (cI, 128, .inl TB)), (a10, .inl (cI, 4, .inl (u 0))), (a11, .inl (cI, 4, .inl (u 1)))]) A) ([.ref h0] : List Value).toArray s 0 0 (A)) (F0 m 141 ls []) := by
    intro fu
    induction fu with
      | zero => intro r b d hir hfr; exact absurd hfr (by omega)
      | succ fu ih =>
        intro r b d hir hfr H locs hP hD hS ls hl
        have ih3 := ih
        refine lv_iload_n hx hb dX1_ready_141 rfl (lv_at hl 1 rfl) ?_
        refine lv_bipush (v := nI 33) hx hb dX1_ready_142 (by decide) ?_
        refine wk_geN (tgt := 226) hx hb (a := r) (b := 33) (by omega) (by decide) dX1_ready_144 (by decide) (fun c144 => ?_) (fun c144 => ?_)
        · obtain rfl : r = 33 := by omega
          refine lv_aload_n hx hb dX1_ready_226 rfl (lv_at hl 0 rfl) ?_
          refine lv_iconst (v := nI 1) hx hb dX1_ready_227 (by decide) ?_
          refine va_put (D := D) (ci := 1) (v := .int (nI 1)) (ty := .boolean) (C := RX1) (T := TX1) (N := 13) hx hb hts hinX1 tyX1 tyX1_ok nmX1 hown hK hP hD hS 0 rfl rfl 3 (by decide) (hts (.fieldLink RX1 59 "SlicedCipherModel" "ready" "Z") (by decide +kernel)) (fun _ h9 => h9) rfl (by decide +kernel) rfl rfl (Nat.le_of_ble_eq_true rfl) dX1_ready_228 (fun H locs hP hD hS => ?_)
          have hP : va_P D vwCl [(h0, .inr (1, [.int (nI 0), .ref a1, .int (nI kb), .int (nI 1), .ref a4, .ref a5, .ref a6, .ref a7, .int zz, .ref a9, .ref a10, .ref a11, .ref a12])), (a1, .inl (cI, 8, .inl K)), (a4, .inl (cI, 140, .inl (cSp (cR1 Wo K kb 8) 132))), (a5, .inl (cI, 132, .inl (mRd Rn (cSp (cR1 Wo K kb 8) 132) 33))), (a9, .inl (cI, 128, .inl TB)), (a10, .inl (cI, 4, .inl b)), (a11, .inl (cI, 4, .inl d))] H := hP
          have hD : va_D A [(h0, .inr (1, [.int (nI 0), .ref a1, .int (nI kb), .int (nI 1), .ref a4, .ref a5, .ref a6, .ref a7, .int zz, .ref a9, .ref a10, .ref a11, .ref a12])), (a1, .inl (cI, 8, .inl K)), (a4, .inl (cI, 140, .inl (cSp (cR1 Wo K kb 8) 132))), (a5, .inl (cI, 132, .inl (mRd Rn (cSp (cR1 Wo K kb 8) 132) 33))), (a9, .inl (cI, 128, .inl TB)), (a10, .inl (cI, 4, .inl b)), (a11, .inl (cI, 4, .inl d))] := hD
          exact W.vret hx hb hr (fun t ht hW => ⟨⟨(fun k9 => match k9 with | 0 => b | _ => d), rfl, trivial, by rw [ht]; exact hP, va_K.moved hW.alike hK, hD⟩, hS.F ht⟩) hS.2.2 dX1_ready_231
        · refine lv_iconst (v := nI 0) hx hb dX1_ready_147 (by decide) ?_
          refine lv_istore_n (lv' := [(2, .int (nI 0)), (0, .ref h0), (1, .int (nI r))]) hx hb dX1_ready_148 rfl hl (by decide) rfl (fun ls hl => ?_)
          have lpa : ∀ (fu : Nat) (j : Nat), j ≤ 4 → 4 + 1 ≤ j + fu → ∀ (H : Heap) (locs : List Loc), va_P D vwCl [(h0, .inr (1, [.int (nI 0), .ref a1, .int (nI kb), .int rd, .ref a4, .ref a5, .ref a6, .ref a7, .int zz, .ref a9, .ref a10, .ref a11, .ref a12])), (a1, .inl (cI, 8, .inl K)), (a4, .inl (cI, 140, .inl (cSp (cR1 Wo K kb 8) 132))), (a5, .inl (cI, 132, .inl (mRd Rn (cSp (cR1 Wo K kb 8) 132) r))), (a9, .inl (cI, 128, .inl TB)), (a10, .inl (cI, 4, .inl (cpI b (cSp (cR1 Wo K kb 8) 132) (8 + 4 * r) j))), (a11, .inl (cI, 4, .inl d))] H → va_D A [(h0, .inr (1, [.int (nI 0), .ref a1, .int (nI kb), .int rd, .ref a4, .ref a5, .ref a6, .ref a7, .int zz, .ref a9, .ref a10, .ref a11, .ref a12])), (a1, .inl (cI, 8, .inl K)), (a4, .inl (cI, 140, .inl (cSp (cR1 Wo K kb 8) 132))), (a5, .inl (cI, 132, .inl (mRd Rn (cSp (cR1 Wo K kb 8) 132) r))), (a9, .inl (cI, 128, .inl TB)), (a10, .inl (cI, 4, .inl (cpI b (cSp (cR1 Wo K kb 8) 132) (8 + 4 * r) j))), (a11, .inl (cI, 4, .inl d))] → va_S A s.heap H locs → ∀ (ls : Array Slot), lv_has ls 3 [(0, .ref h0), (1, .int (nI r)), (2, .int (nI j))] → W p l e ((headSpec wsX1_ready ({ frames := 2, cells := 0, slots := 0, locals := 49 })).room) s m ([.ref h0] : List Value).toArray below meth c H locs 0 0 (MQ below (va_Qv (fun _ : Nat → Nat → Int32 => True) (fun u => BW D [(cI, .int)] A [(h0, .inr (1, [.int (nI 0), .ref a1, .int (nI kb), .int (nI 1), .ref a4, .ref a5, .ref a6, .ref a7, .int zz, .ref a9, .ref a10, .ref a11, .ref a12])), (a1, .inl (cI, 8, .inl K)), (a4, .inl (cI, 140, .inl (cSp (cR1 Wo K kb 8) 132))), (a5, .inl (cI, 132, .inl (mRd Rn (cSp (cR1 Wo K kb 8) 132) 33))), (a9, .inl (cI, 128, .inl TB)), (a10, .inl (cI, 4, .inl (u 0))), (a11, .inl (cI, 4, .inl (u 1)))]) A) ([.ref h0] : List Value).toArray s 0 0 (A)) (F0 m 149 ls []) := by
            intro fu
            induction fu with
              | zero => intro j hij hfj; exact absurd hfj (by omega)
              | succ fu ih =>
                intro j hij hfj H locs hP hD hS ls hl
                refine lv_iload_n hx hb dX1_ready_149 rfl (lv_at hl 2 rfl) ?_
                refine lv_iconst (v := nI 4) hx hb dX1_ready_150 (by decide) ?_
                refine wk_geN (tgt := 179) hx hb (a := j) (b := 4) (by omega) (by decide) dX1_ready_151 (by decide) (fun c151 => ?_) (fun c151 => ?_)
                · obtain rfl : j = 4 := by omega
                  rw [cpI_4] at hP hD
                  refine lv_aload_n hx hb dX1_ready_179 rfl (lv_at hl 0 rfl) ?_
                  refine lv_bipush (v := nI 35) hx hb dX1_ready_180 (by decide) ?_
                  refine lv_iload_n hx hb dX1_ready_182 rfl (lv_at hl 1 rfl) ?_
                  refine wk_isubN hx hb (a := 35) (b := r) (by omega) dX1_ready_183 ?_
                  refine lv_bipush (v := nI 8) hx hb dX1_ready_184 (by decide) ?_
                  refine wk_iremN hx hb (a := 35 - r) (b := 8) (by omega) (by decide) (by decide) dX1_ready_186 ?_
                  refine lv_iconst (v := nI 0) hx hb dX1_ready_187 (by decide) ?_
                  refine wk_Vv (b := h0) (As := [.int (nI ((35 - r) % 8)), .int (nI 0)]) (rest := []) (wc := [(h0, .inr (1, [.int (nI 0), .ref a1, .int (nI kb), .int rd, .ref a4, .ref a5, .ref a6, .ref a7, .int zz, .ref a9, .ref a10, .ref a11, .ref a12])), (a9, .inl (cI, 128, .inl TB)), (a10, .inl (cI, 4, .inl (st4 b 0 (ld4 (cSp (cR1 Wo K kb 8) 132) (8 + 4 * r))))), (a11, .inl (cI, 4, .inl d))]) (wr := [(a1, .inl (cI, 8, .inl K)), (a4, .inl (cI, 140, .inl (cSp (cR1 Wo K kb 8) 132))), (a5, .inl (cI, 132, .inl (mRd Rn (cSp (cR1 Wo K kb 8) 132) r)))]) (w1 := [(h0, .inr (1, [.int (nI 0), .ref a1, .int (nI kb), .int rd, .ref a4, .ref a5, .ref a6, .ref a7, .int zz, .ref a9, .ref a10, .ref a11, .ref a12])), (a9, .inl (cI, 128, .inl TB)), (a10, .inl (cI, 4, .inl (st4 (st4 b 0 (ld4 (cSp (cR1 Wo K kb 8) 132) (8 + 4 * r))) 0 (cBox 0 ((35 - r) % 8) (ld4 (st4 b 0 (ld4 (cSp (cR1 Wo K kb 8) 132) (8 + 4 * r))) 0))))), (a11, .inl (cI, 4, .inl (st4 d 0 (cBox 0 ((35 - r) % 8) (ld4 (st4 b 0 (ld4 (cSp (cR1 Wo K kb 8) 132) (8 + 4 * r))) 0)))))]) (w2 := [(h0, .inr (1, [.int (nI 0), .ref a1, .int (nI kb), .int rd, .ref a4, .ref a5, .ref a6, .ref a7, .int zz, .ref a9, .ref a10, .ref a11, .ref a12])), (a1, .inl (cI, 8, .inl K)), (a4, .inl (cI, 140, .inl (cSp (cR1 Wo K kb 8) 132))), (a5, .inl (cI, 132, .inl (mRd Rn (cSp (cR1 Wo K kb 8) 132) r))), (a9, .inl (cI, 128, .inl TB)), (a10, .inl (cI, 4, .inl (st4 (st4 b 0 (ld4 (cSp (cR1 Wo K kb 8) 132) (8 + 4 * r))) 0 (cBox 0 ((35 - r) % 8) (ld4 (st4 b 0 (ld4 (cSp (cR1 Wo K kb 8) 132) (8 + 4 * r))) 0))))), (a11, .inl (cI, 4, .inl (st4 d 0 (cBox 0 ((35 - r) % 8) (ld4 (st4 b 0 (ld4 (cSp (cR1 Wo K kb 8) 132) (8 + 4 * r))) 0)))))]) (ci := 1) (q0 := 0) ⟨hx, hb, hml, hown, hts⟩ (c_X1_through0 l D cI _ h0 a1 a4 a5 a6 a7 a9 a10 a11 a12 (nI 0) (nI kb) rd zz ((35 - r) % 8) (st4 b 0 (ld4 (cSp (cR1 Wo K kb 8) 132) (8 + 4 * r))) d (Nat.mod_lt _ (by decide))) (cwV 2 hts gX1_ready_X1_through rfl rfl rfl (by decide +kernel) ⟨Nat.le_of_ble_eq_true rfl, Nat.le_of_ble_eq_true rfl⟩) (fun _ _ _ _ h => h) (fun _ _ _ _ => trivial) hK hP hD hS hA rfl rfl [0, 4, 5, 6] [1, 2, 3] rfl (by decide) rfl (by decide) (by decide) [3, 0, 1, 2, 4, 5, 6] rfl (by decide) rfl hl.1 rfl (Nat.le_of_ble_eq_true rfl) dX1_ready_188 ⟨Nat.zero_le _, Nat.zero_le _⟩ (fun H locs hP hD hS => ?_)
                  simp only [ld4_st4, st4_st4] at hP hD
                  have hP : va_P D vwCl [(h0, .inr (1, [.int (nI 0), .ref a1, .int (nI kb), .int rd, .ref a4, .ref a5, .ref a6, .ref a7, .int zz, .ref a9, .ref a10, .ref a11, .ref a12])), (a1, .inl (cI, 8, .inl K)), (a4, .inl (cI, 140, .inl (cSp (cR1 Wo K kb 8) 132))), (a5, .inl (cI, 132, .inl (mRd Rn (cSp (cR1 Wo K kb 8) 132) r))), (a9, .inl (cI, 128, .inl TB)), (a10, .inl (cI, 4, .inl (st4 b 0 (cBox 0 ((35 - r) % 8) (ld4 (cSp (cR1 Wo K kb 8) 132) (8 + 4 * r)))))), (a11, .inl (cI, 4, .inl (st4 d 0 (cBox 0 ((35 - r) % 8) (ld4 (cSp (cR1 Wo K kb 8) 132) (8 + 4 * r))))))] H := hP
                  have hD : va_D A [(h0, .inr (1, [.int (nI 0), .ref a1, .int (nI kb), .int rd, .ref a4, .ref a5, .ref a6, .ref a7, .int zz, .ref a9, .ref a10, .ref a11, .ref a12])), (a1, .inl (cI, 8, .inl K)), (a4, .inl (cI, 140, .inl (cSp (cR1 Wo K kb 8) 132))), (a5, .inl (cI, 132, .inl (mRd Rn (cSp (cR1 Wo K kb 8) 132) r))), (a9, .inl (cI, 128, .inl TB)), (a10, .inl (cI, 4, .inl (st4 b 0 (cBox 0 ((35 - r) % 8) (ld4 (cSp (cR1 Wo K kb 8) 132) (8 + 4 * r)))))), (a11, .inl (cI, 4, .inl (st4 d 0 (cBox 0 ((35 - r) % 8) (ld4 (cSp (cR1 Wo K kb 8) 132) (8 + 4 * r))))))] := hD
                  refine lv_iconst (v := nI 0) hx hb dX1_ready_191 (by decide) ?_
                  refine lv_istore_n (lv' := [(2, .int (nI 0)), (0, .ref h0), (1, .int (nI r))]) hx hb dX1_ready_192 rfl hl (by decide) rfl (fun ls hl => ?_)
                  have lpb : ∀ (fu : Nat) (j : Nat), j ≤ 4 → 4 + 1 ≤ j + fu → ∀ (H : Heap) (locs : List Loc), va_P D vwCl [(h0, .inr (1, [.int (nI 0), .ref a1, .int (nI kb), .int rd, .ref a4, .ref a5, .ref a6, .ref a7, .int zz, .ref a9, .ref a10, .ref a11, .ref a12])), (a1, .inl (cI, 8, .inl K)), (a4, .inl (cI, 140, .inl (cSp (cR1 Wo K kb 8) 132))), (a5, .inl (cI, 132, .inl (cpO (mRd Rn (cSp (cR1 Wo K kb 8) 132) r) (st4 b 0 (cBox 0 ((35 - r) % 8) (ld4 (cSp (cR1 Wo K kb 8) 132) (8 + 4 * r)))) (4 * r) j))), (a9, .inl (cI, 128, .inl TB)), (a10, .inl (cI, 4, .inl (st4 b 0 (cBox 0 ((35 - r) % 8) (ld4 (cSp (cR1 Wo K kb 8) 132) (8 + 4 * r)))))), (a11, .inl (cI, 4, .inl (st4 d 0 (cBox 0 ((35 - r) % 8) (ld4 (cSp (cR1 Wo K kb 8) 132) (8 + 4 * r))))))] H → va_D A [(h0, .inr (1, [.int (nI 0), .ref a1, .int (nI kb), .int rd, .ref a4, .ref a5, .ref a6, .ref a7, .int zz, .ref a9, .ref a10, .ref a11, .ref a12])), (a1, .inl (cI, 8, .inl K)), (a4, .inl (cI, 140, .inl (cSp (cR1 Wo K kb 8) 132))), (a5, .inl (cI, 132, .inl (cpO (mRd Rn (cSp (cR1 Wo K kb 8) 132) r) (st4 b 0 (cBox 0 ((35 - r) % 8) (ld4 (cSp (cR1 Wo K kb 8) 132) (8 + 4 * r)))) (4 * r) j))), (a9, .inl (cI, 128, .inl TB)), (a10, .inl (cI, 4, .inl (st4 b 0 (cBox 0 ((35 - r) % 8) (ld4 (cSp (cR1 Wo K kb 8) 132) (8 + 4 * r)))))), (a11, .inl (cI, 4, .inl (st4 d 0 (cBox 0 ((35 - r) % 8) (ld4 (cSp (cR1 Wo K kb 8) 132) (8 + 4 * r))))))] → va_S A s.heap H locs → ∀ (ls : Array Slot), lv_has ls 3 [(0, .ref h0), (1, .int (nI r)), (2, .int (nI j))] → W p l e ((headSpec wsX1_ready ({ frames := 2, cells := 0, slots := 0, locals := 49 })).room) s m ([.ref h0] : List Value).toArray below meth c H locs 0 0 (MQ below (va_Qv (fun _ : Nat → Nat → Int32 => True) (fun u => BW D [(cI, .int)] A [(h0, .inr (1, [.int (nI 0), .ref a1, .int (nI kb), .int (nI 1), .ref a4, .ref a5, .ref a6, .ref a7, .int zz, .ref a9, .ref a10, .ref a11, .ref a12])), (a1, .inl (cI, 8, .inl K)), (a4, .inl (cI, 140, .inl (cSp (cR1 Wo K kb 8) 132))), (a5, .inl (cI, 132, .inl (mRd Rn (cSp (cR1 Wo K kb 8) 132) 33))), (a9, .inl (cI, 128, .inl TB)), (a10, .inl (cI, 4, .inl (u 0))), (a11, .inl (cI, 4, .inl (u 1)))]) A) ([.ref h0] : List Value).toArray s 0 0 (A)) (F0 m 193 ls []) := by
                    intro fu
                    induction fu with
                      | zero => intro j hij hfj; exact absurd hfj (by omega)
                      | succ fu ih =>
                        intro j hij hfj H locs hP hD hS ls hl
                        refine lv_iload_n hx hb dX1_ready_193 rfl (lv_at hl 2 rfl) ?_
                        refine lv_iconst (v := nI 4) hx hb dX1_ready_194 (by decide) ?_
                        refine wk_geN (tgt := 220) hx hb (a := j) (b := 4) (by omega) (by decide) dX1_ready_195 (by decide) (fun c195 => ?_) (fun c195 => ?_)
                        · obtain rfl : j = 4 := by omega
                          rw [cpO_4, ld4_st4] at hP hD
                          refine lv_iinc (v := nI (r + 1)) (lv' := [(1, .int (nI (r + 1))), (0, .ref h0), (2, .int (nI 4))]) hx hb dX1_ready_220 hl (k := 1) rfl (wk_inc r (by decide)) (by decide) rfl (fun ls hl => ?_)
                          refine lv_goto (tgt := 141) hx hb dX1_ready_223 (by decide) ?_
                          exact ih3 (r + 1) _ _ (by omega) (by omega) _ _ hP hD hS ls (lv_sub hl [1, 0] rfl)
                        · refine lv_aload_n hx hb dX1_ready_198 rfl (lv_at hl 0 rfl) ?_
                          refine va_get (D := D) (ci := 1) (v := .ref a5) (C := RX1) (T := TX1) (N := 13) hx hb hts hinX1 hown hK hP 0 rfl rfl 5 (by decide) (hts (.fieldLink RX1 16 "SlicedCipherModel" "rounds" "[I") (by decide +kernel)) (fun _ h9 => h9) rfl dX1_ready_199 ?_
                          refine lv_iconst (v := nI 4) hx hb dX1_ready_202 (by decide) ?_
                          refine lv_iload_n hx hb dX1_ready_203 rfl (lv_at hl 1 rfl) ?_
                          refine wk_imulN hx hb (a := 4) (b := r) dX1_ready_204 ?_
                          refine lv_iload_n hx hb dX1_ready_205 rfl (lv_at hl 2 rfl) ?_
                          refine wk_iaddN hx hb (a := 4 * r) (b := j) dX1_ready_206 ?_
                          refine lv_aload_n hx hb dX1_ready_207 rfl (lv_at hl 0 rfl) ?_
                          refine va_get (D := D) (ci := 1) (v := .ref a10) (C := RX1) (T := TX1) (N := 13) hx hb hts hinX1 hown hK hP 0 rfl rfl 10 (by decide) (hts (.fieldLink RX1 28 "SlicedCipherModel" "block" "[I") (by decide +kernel)) (fun _ h9 => h9) rfl dX1_ready_208 ?_
                          refine lv_iload_n hx hb dX1_ready_211 rfl (lv_at hl 2 rfl) ?_
                          refine wk_iald hx hb hK hP 5 0 rfl rfl (k := j) (by omega) (by decide) dX1_ready_212 ?_
                          refine wk_iast hx hb hK hP hD hS 3 0 rfl rfl (k := (4 * r) + j) (x := (st4 b 0 (cBox 0 ((35 - r) % 8) (ld4 (cSp (cR1 Wo K kb 8) 132) (8 + 4 * r)))) j) (by omega) (by decide) dX1_ready_213 (fun H locs hP hD hS => ?_)
                          have hP : va_P D vwCl [(h0, .inr (1, [.int (nI 0), .ref a1, .int (nI kb), .int rd, .ref a4, .ref a5, .ref a6, .ref a7, .int zz, .ref a9, .ref a10, .ref a11, .ref a12])), (a1, .inl (cI, 8, .inl K)), (a4, .inl (cI, 140, .inl (cSp (cR1 Wo K kb 8) 132))), (a5, .inl (cI, 132, .inl (upd (cpO (mRd Rn (cSp (cR1 Wo K kb 8) 132) r) (st4 b 0 (cBox 0 ((35 - r) % 8) (ld4 (cSp (cR1 Wo K kb 8) 132) (8 + 4 * r)))) (4 * r) j) ((4 * r) + j) ((st4 b 0 (cBox 0 ((35 - r) % 8) (ld4 (cSp (cR1 Wo K kb 8) 132) (8 + 4 * r)))) j)))), (a9, .inl (cI, 128, .inl TB)), (a10, .inl (cI, 4, .inl (st4 b 0 (cBox 0 ((35 - r) % 8) (ld4 (cSp (cR1 Wo K kb 8) 132) (8 + 4 * r)))))), (a11, .inl (cI, 4, .inl (st4 d 0 (cBox 0 ((35 - r) % 8) (ld4 (cSp (cR1 Wo K kb 8) 132) (8 + 4 * r))))))] H := hP
                          have hD : va_D A [(h0, .inr (1, [.int (nI 0), .ref a1, .int (nI kb), .int rd, .ref a4, .ref a5, .ref a6, .ref a7, .int zz, .ref a9, .ref a10, .ref a11, .ref a12])), (a1, .inl (cI, 8, .inl K)), (a4, .inl (cI, 140, .inl (cSp (cR1 Wo K kb 8) 132))), (a5, .inl (cI, 132, .inl (upd (cpO (mRd Rn (cSp (cR1 Wo K kb 8) 132) r) (st4 b 0 (cBox 0 ((35 - r) % 8) (ld4 (cSp (cR1 Wo K kb 8) 132) (8 + 4 * r)))) (4 * r) j) ((4 * r) + j) ((st4 b 0 (cBox 0 ((35 - r) % 8) (ld4 (cSp (cR1 Wo K kb 8) 132) (8 + 4 * r)))) j)))), (a9, .inl (cI, 128, .inl TB)), (a10, .inl (cI, 4, .inl (st4 b 0 (cBox 0 ((35 - r) % 8) (ld4 (cSp (cR1 Wo K kb 8) 132) (8 + 4 * r)))))), (a11, .inl (cI, 4, .inl (st4 d 0 (cBox 0 ((35 - r) % 8) (ld4 (cSp (cR1 Wo K kb 8) 132) (8 + 4 * r))))))] := hD
                          refine lv_iinc (v := nI (j + 1)) (lv' := [(2, .int (nI (j + 1))), (0, .ref h0), (1, .int (nI r))]) hx hb dX1_ready_214 hl (k := 2) rfl (wk_inc j (by decide)) (by decide) rfl (fun ls hl => ?_)
                          refine lv_goto (tgt := 193) hx hb dX1_ready_217 (by decide) ?_
                          exact ih (j + 1) (by omega) (by omega) _ _ hP hD hS ls (lv_sub hl [1, 2, 0] rfl)
                  exact lpb 5 0 (by omega) (by omega) _ _ hP hD hS ls (lv_sub hl [1, 2, 0] rfl)
                · refine lv_aload_n hx hb dX1_ready_154 rfl (lv_at hl 0 rfl) ?_
                  refine va_get (D := D) (ci := 1) (v := .ref a10) (C := RX1) (T := TX1) (N := 13) hx hb hts hinX1 hown hK hP 0 rfl rfl 10 (by decide) (hts (.fieldLink RX1 28 "SlicedCipherModel" "block" "[I") (by decide +kernel)) (fun _ h9 => h9) rfl dX1_ready_155 ?_
                  refine lv_iload_n hx hb dX1_ready_158 rfl (lv_at hl 2 rfl) ?_
                  refine lv_aload_n hx hb dX1_ready_159 rfl (lv_at hl 0 rfl) ?_
                  refine va_get (D := D) (ci := 1) (v := .ref a4) (C := RX1) (T := TX1) (N := 13) hx hb hts hinX1 hown hK hP 0 rfl rfl 4 (by decide) (hts (.fieldLink RX1 13 "SlicedCipherModel" "words" "[I") (by decide +kernel)) (fun _ h9 => h9) rfl dX1_ready_160 ?_
                  refine lv_bipush (v := nI 8) hx hb dX1_ready_163 (by decide) ?_
                  refine lv_iconst (v := nI 4) hx hb dX1_ready_165 (by decide) ?_
                  refine lv_iload_n hx hb dX1_ready_166 rfl (lv_at hl 1 rfl) ?_
                  refine wk_imulN hx hb (a := 4) (b := r) dX1_ready_167 ?_
                  refine wk_iaddN hx hb (a := 8) (b := 4 * r) dX1_ready_168 ?_
                  refine lv_iload_n hx hb dX1_ready_169 rfl (lv_at hl 2 rfl) ?_
                  refine wk_iaddN hx hb (a := 8 + (4 * r)) (b := j) dX1_ready_170 ?_
                  refine wk_iald hx hb hK hP 2 0 rfl rfl (k := (8 + (4 * r)) + j) (by omega) (by decide) dX1_ready_171 ?_
                  refine wk_iast hx hb hK hP hD hS 5 0 rfl rfl (k := j) (x := (cSp (cR1 Wo K kb 8) 132) ((8 + (4 * r)) + j)) (by omega) (by decide) dX1_ready_172 (fun H locs hP hD hS => ?_)
                  have hP : va_P D vwCl [(h0, .inr (1, [.int (nI 0), .ref a1, .int (nI kb), .int rd, .ref a4, .ref a5, .ref a6, .ref a7, .int zz, .ref a9, .ref a10, .ref a11, .ref a12])), (a1, .inl (cI, 8, .inl K)), (a4, .inl (cI, 140, .inl (cSp (cR1 Wo K kb 8) 132))), (a5, .inl (cI, 132, .inl (mRd Rn (cSp (cR1 Wo K kb 8) 132) r))), (a9, .inl (cI, 128, .inl TB)), (a10, .inl (cI, 4, .inl (upd (cpI b (cSp (cR1 Wo K kb 8) 132) (8 + 4 * r) j) j ((cSp (cR1 Wo K kb 8) 132) ((8 + (4 * r)) + j))))), (a11, .inl (cI, 4, .inl d))] H := hP
                  have hD : va_D A [(h0, .inr (1, [.int (nI 0), .ref a1, .int (nI kb), .int rd, .ref a4, .ref a5, .ref a6, .ref a7, .int zz, .ref a9, .ref a10, .ref a11, .ref a12])), (a1, .inl (cI, 8, .inl K)), (a4, .inl (cI, 140, .inl (cSp (cR1 Wo K kb 8) 132))), (a5, .inl (cI, 132, .inl (mRd Rn (cSp (cR1 Wo K kb 8) 132) r))), (a9, .inl (cI, 128, .inl TB)), (a10, .inl (cI, 4, .inl (upd (cpI b (cSp (cR1 Wo K kb 8) 132) (8 + 4 * r) j) j ((cSp (cR1 Wo K kb 8) 132) ((8 + (4 * r)) + j))))), (a11, .inl (cI, 4, .inl d))] := hD
                  refine lv_iinc (v := nI (j + 1)) (lv' := [(2, .int (nI (j + 1))), (0, .ref h0), (1, .int (nI r))]) hx hb dX1_ready_173 hl (k := 2) rfl (wk_inc j (by decide)) (by decide) rfl (fun ls hl => ?_)
                  refine lv_goto (tgt := 149) hx hb dX1_ready_176 (by decide) ?_
                  exact ih (j + 1) (by omega) (by omega) _ _ hP hD hS ls (lv_sub hl [1, 2, 0] rfl)
          exact lpa 5 0 (by omega) (by omega) _ _ hP hD hS ls (lv_sub hl [1, 2, 0] rfl)
  have lp2 : ∀ (fu : Nat) (i : Nat), i ≤ 132 → 132 + 1 ≤ i + fu → ∀ (H : Heap) (locs : List Loc), va_P D vwCl [(h0, .inr (1, [.int (nI 0), .ref a1, .int (nI kb), .int rd, .ref a4, .ref a5, .ref a6, .ref a7, .int zz, .ref a9, .ref a10, .ref a11, .ref a12])), (a1, .inl (cI, 8, .inl K)), (a4, .inl (cI, 140, .inl (cSp (cR1 Wo K kb 8) i))), (a5, .inl (cI, 132, .inl Rn)), (a9, .inl (cI, 128, .inl TB)), (a10, .inl (cI, 4, .inl b)), (a11, .inl (cI, 4, .inl d))] H → va_D A [(h0, .inr (1, [.int (nI 0), .ref a1, .int (nI kb), .int rd, .ref a4, .ref a5, .ref a6, .ref a7, .int zz, .ref a9, .ref a10, .ref a11, .ref a12])), (a1, .inl (cI, 8, .inl K)), (a4, .inl (cI, 140, .inl (cSp (cR1 Wo K kb 8) i))), (a5, .inl (cI, 132, .inl Rn)), (a9, .inl (cI, 128, .inl TB)), (a10, .inl (cI, 4, .inl b)), (a11, .inl (cI, 4, .inl d))] → va_S A s.heap H locs → ∀ (ls : Array Slot), lv_has ls 3 [(0, .ref h0), (1, .int (nI i))] → W p l e ((headSpec wsX1_ready ({ frames := 2, cells := 0, slots := 0, locals := 49 })).room) s m ([.ref h0] : List Value).toArray below meth c H locs 0 0 (MQ below (va_Qv (fun _ : Nat → Nat → Int32 => True) (fun u => BW D [(cI, .int)] A [(h0, .inr (1, [.int (nI 0), .ref a1, .int (nI kb), .int (nI 1), .ref a4, .ref a5, .ref a6, .ref a7, .int zz, .ref a9, .ref a10, .ref a11, .ref a12])), (a1, .inl (cI, 8, .inl K)), (a4, .inl (cI, 140, .inl (cSp (cR1 Wo K kb 8) 132))), (a5, .inl (cI, 132, .inl (mRd Rn (cSp (cR1 Wo K kb 8) 132) 33))), (a9, .inl (cI, 128, .inl TB)), (a10, .inl (cI, 4, .inl (u 0))), (a11, .inl (cI, 4, .inl (u 1)))]) A) ([.ref h0] : List Value).toArray s 0 0 (A)) (F0 m 73 ls []) := by
    intro fu
    induction fu with
      | zero => intro i hii hfi; exact absurd hfi (by omega)
      | succ fu ih =>
        intro i hii hfi H locs hP hD hS ls hl
        refine lv_iload_n hx hb dX1_ready_73 rfl (lv_at hl 1 rfl) ?_
        refine lv_sipush (v := nI 132) hx hb dX1_ready_74 (by decide) ?_
        refine wk_geN (tgt := 139) hx hb (a := i) (b := 132) (by omega) (by decide) dX1_ready_77 (by decide) (fun c77 => ?_) (fun c77 => ?_)
        · obtain rfl : i = 132 := by omega
          refine lv_iconst (v := nI 0) hx hb dX1_ready_139 (by decide) ?_
          refine lv_istore_n (lv' := [(1, .int (nI 0)), (0, .ref h0)]) hx hb dX1_ready_140 rfl hl (by decide) rfl (fun ls hl => ?_)
          exact lp3 34 0 _ _ (by omega) (by omega) _ _ hP hD hS ls (lv_sub hl [1, 0] rfl)
        · refine lv_aload_n hx hb dX1_ready_80 rfl (lv_at hl 0 rfl) ?_
          refine va_get (D := D) (ci := 1) (v := .ref a4) (C := RX1) (T := TX1) (N := 13) hx hb hts hinX1 hown hK hP 0 rfl rfl 4 (by decide) (hts (.fieldLink RX1 13 "SlicedCipherModel" "words" "[I") (by decide +kernel)) (fun _ h9 => h9) rfl dX1_ready_81 ?_
          refine lv_iload_n hx hb dX1_ready_84 rfl (lv_at hl 1 rfl) ?_
          refine lv_bipush (v := nI 8) hx hb dX1_ready_85 (by decide) ?_
          refine wk_iaddN hx hb (a := i) (b := 8) dX1_ready_87 ?_
          refine lv_aload_n hx hb dX1_ready_88 rfl (lv_at hl 0 rfl) ?_
          refine va_get (D := D) (ci := 1) (v := .ref a4) (C := RX1) (T := TX1) (N := 13) hx hb hts hinX1 hown hK hP 0 rfl rfl 4 (by decide) (hts (.fieldLink RX1 13 "SlicedCipherModel" "words" "[I") (by decide +kernel)) (fun _ h9 => h9) rfl dX1_ready_89 ?_
          refine lv_iload_n hx hb dX1_ready_92 rfl (lv_at hl 1 rfl) ?_
          refine wk_iald hx hb hK hP 2 0 rfl rfl (k := i) (by omega) (by decide) dX1_ready_93 ?_
          refine lv_aload_n hx hb dX1_ready_94 rfl (lv_at hl 0 rfl) ?_
          refine va_get (D := D) (ci := 1) (v := .ref a4) (C := RX1) (T := TX1) (N := 13) hx hb hts hinX1 hown hK hP 0 rfl rfl 4 (by decide) (hts (.fieldLink RX1 13 "SlicedCipherModel" "words" "[I") (by decide +kernel)) (fun _ h9 => h9) rfl dX1_ready_95 ?_
          refine lv_iload_n hx hb dX1_ready_98 rfl (lv_at hl 1 rfl) ?_
          refine lv_iconst (v := nI 3) hx hb dX1_ready_99 (by decide) ?_
          refine wk_iaddN hx hb (a := i) (b := 3) dX1_ready_100 ?_
          refine wk_iald hx hb hK hP 2 0 rfl rfl (k := i + 3) (by omega) (by decide) dX1_ready_101 ?_
          refine lv_ixor hx hb dX1_ready_102 ?_
          refine lv_aload_n hx hb dX1_ready_103 rfl (lv_at hl 0 rfl) ?_
          refine va_get (D := D) (ci := 1) (v := .ref a4) (C := RX1) (T := TX1) (N := 13) hx hb hts hinX1 hown hK hP 0 rfl rfl 4 (by decide) (hts (.fieldLink RX1 13 "SlicedCipherModel" "words" "[I") (by decide +kernel)) (fun _ h9 => h9) rfl dX1_ready_104 ?_
          refine lv_iload_n hx hb dX1_ready_107 rfl (lv_at hl 1 rfl) ?_
          refine lv_iconst (v := nI 5) hx hb dX1_ready_108 (by decide) ?_
          refine wk_iaddN hx hb (a := i) (b := 5) dX1_ready_109 ?_
          refine wk_iald hx hb hK hP 2 0 rfl rfl (k := i + 5) (by omega) (by decide) dX1_ready_110 ?_
          refine lv_ixor hx hb dX1_ready_111 ?_
          refine lv_aload_n hx hb dX1_ready_112 rfl (lv_at hl 0 rfl) ?_
          refine va_get (D := D) (ci := 1) (v := .ref a4) (C := RX1) (T := TX1) (N := 13) hx hb hts hinX1 hown hK hP 0 rfl rfl 4 (by decide) (hts (.fieldLink RX1 13 "SlicedCipherModel" "words" "[I") (by decide +kernel)) (fun _ h9 => h9) rfl dX1_ready_113 ?_
          refine lv_iload_n hx hb dX1_ready_116 rfl (lv_at hl 1 rfl) ?_
          refine lv_bipush (v := nI 7) hx hb dX1_ready_117 (by decide) ?_
          refine wk_iaddN hx hb (a := i) (b := 7) dX1_ready_119 ?_
          refine wk_iald hx hb hK hP 2 0 rfl rfl (k := i + 7) (by omega) (by decide) dX1_ready_120 ?_
          refine lv_ixor hx hb dX1_ready_121 ?_
          refine lv_ldc (v := -1640531527) hx hb hown (hts (.constant RX1 70 (-1640531527)) (by decide +kernel)) dX1_ready_122 ?_
          refine lv_ixor hx hb dX1_ready_124 ?_
          refine lv_iload_n hx hb dX1_ready_125 rfl (lv_at hl 1 rfl) ?_
          refine lv_ixor hx hb dX1_ready_126 ?_
          refine lv_bipush (v := nI 11) hx hb dX1_ready_127 (by decide) ?_
          refine wk_Sp (v := rotL (((((((cSp (cR1 Wo K kb 8) i) i) ^^^ ((cSp (cR1 Wo K kb 8) i) (i + 3))) ^^^ ((cSp (cR1 Wo K kb 8) i) (i + 5))) ^^^ ((cSp (cR1 Wo K kb 8) i) (i + 7))) ^^^ ((-1640531527))) ^^^ (nI i)) (nI 11)) (As := [.int (((((((cSp (cR1 Wo K kb 8) i) i) ^^^ ((cSp (cR1 Wo K kb 8) i) (i + 3))) ^^^ ((cSp (cR1 Wo K kb 8) i) (i + 5))) ^^^ ((cSp (cR1 Wo K kb 8) i) (i + 7))) ^^^ ((-1640531527))) ^^^ (nI i)), .int (nI 11)]) (rest := [.int (nI (i + 8)), .ref a4]) ⟨hx, hb, hml, hown, hts⟩ (c_X1_left l (((((((cSp (cR1 Wo K kb 8) i) i) ^^^ ((cSp (cR1 Wo K kb 8) i) (i + 3))) ^^^ ((cSp (cR1 Wo K kb 8) i) (i + 5))) ^^^ ((cSp (cR1 Wo K kb 8) i) (i + 7))) ^^^ ((-1640531527))) ^^^ (nI i)) 11 (by decide) (by decide)) (va_cwS 2 hts gX1_ready_X1_left rfl rfl rfl (by decide +kernel) ⟨Nat.le_of_ble_eq_true rfl, Nat.le_of_ble_eq_true rfl⟩) rfl hl.1 rfl (Nat.le_of_ble_eq_true rfl) dX1_ready_129 ⟨Nat.zero_le _, Nat.zero_le _⟩ ?_
          refine wk_iast hx hb hK hP hD hS 2 0 rfl rfl (k := i + 8) (x := rotL (((((((cSp (cR1 Wo K kb 8) i) i) ^^^ ((cSp (cR1 Wo K kb 8) i) (i + 3))) ^^^ ((cSp (cR1 Wo K kb 8) i) (i + 5))) ^^^ ((cSp (cR1 Wo K kb 8) i) (i + 7))) ^^^ ((-1640531527))) ^^^ (nI i)) (nI 11)) (by omega) (by decide) dX1_ready_132 (fun H locs hP hD hS => ?_)
          have hP : va_P D vwCl [(h0, .inr (1, [.int (nI 0), .ref a1, .int (nI kb), .int rd, .ref a4, .ref a5, .ref a6, .ref a7, .int zz, .ref a9, .ref a10, .ref a11, .ref a12])), (a1, .inl (cI, 8, .inl K)), (a4, .inl (cI, 140, .inl (upd (cSp (cR1 Wo K kb 8) i) (i + 8) (rotL (((((((cSp (cR1 Wo K kb 8) i) i) ^^^ ((cSp (cR1 Wo K kb 8) i) (i + 3))) ^^^ ((cSp (cR1 Wo K kb 8) i) (i + 5))) ^^^ ((cSp (cR1 Wo K kb 8) i) (i + 7))) ^^^ ((-1640531527))) ^^^ (nI i)) (nI 11))))), (a5, .inl (cI, 132, .inl Rn)), (a9, .inl (cI, 128, .inl TB)), (a10, .inl (cI, 4, .inl b)), (a11, .inl (cI, 4, .inl d))] H := hP
          have hD : va_D A [(h0, .inr (1, [.int (nI 0), .ref a1, .int (nI kb), .int rd, .ref a4, .ref a5, .ref a6, .ref a7, .int zz, .ref a9, .ref a10, .ref a11, .ref a12])), (a1, .inl (cI, 8, .inl K)), (a4, .inl (cI, 140, .inl (upd (cSp (cR1 Wo K kb 8) i) (i + 8) (rotL (((((((cSp (cR1 Wo K kb 8) i) i) ^^^ ((cSp (cR1 Wo K kb 8) i) (i + 3))) ^^^ ((cSp (cR1 Wo K kb 8) i) (i + 5))) ^^^ ((cSp (cR1 Wo K kb 8) i) (i + 7))) ^^^ ((-1640531527))) ^^^ (nI i)) (nI 11))))), (a5, .inl (cI, 132, .inl Rn)), (a9, .inl (cI, 128, .inl TB)), (a10, .inl (cI, 4, .inl b)), (a11, .inl (cI, 4, .inl d))] := hD
          rw [cSp_succ] at hP hD
          have hP : va_P D vwCl [(h0, .inr (1, [.int (nI 0), .ref a1, .int (nI kb), .int rd, .ref a4, .ref a5, .ref a6, .ref a7, .int zz, .ref a9, .ref a10, .ref a11, .ref a12])), (a1, .inl (cI, 8, .inl K)), (a4, .inl (cI, 140, .inl (cSp (cR1 Wo K kb 8) (i + 1)))), (a5, .inl (cI, 132, .inl Rn)), (a9, .inl (cI, 128, .inl TB)), (a10, .inl (cI, 4, .inl b)), (a11, .inl (cI, 4, .inl d))] H := hP
          have hD : va_D A [(h0, .inr (1, [.int (nI 0), .ref a1, .int (nI kb), .int rd, .ref a4, .ref a5, .ref a6, .ref a7, .int zz, .ref a9, .ref a10, .ref a11, .ref a12])), (a1, .inl (cI, 8, .inl K)), (a4, .inl (cI, 140, .inl (cSp (cR1 Wo K kb 8) (i + 1)))), (a5, .inl (cI, 132, .inl Rn)), (a9, .inl (cI, 128, .inl TB)), (a10, .inl (cI, 4, .inl b)), (a11, .inl (cI, 4, .inl d))] := hD
          refine lv_iinc (v := nI (i + 1)) (lv' := [(1, .int (nI (i + 1))), (0, .ref h0)]) hx hb dX1_ready_133 hl (k := 1) rfl (wk_inc i (by decide)) (by decide) rfl (fun ls hl => ?_)
          refine lv_goto (tgt := 73) hx hb dX1_ready_136 (by decide) ?_
          exact ih (i + 1) (by omega) (by omega) _ _ hP hD hS ls (lv_sub hl [1, 0] rfl)
  have lp1 : ∀ (fu : Nat) (i : Nat), i ≤ 8 → 8 + 1 ≤ i + fu → ∀ (H : Heap) (locs : List Loc), va_P D vwCl [(h0, .inr (1, [.int (nI 0), .ref a1, .int (nI kb), .int rd, .ref a4, .ref a5, .ref a6, .ref a7, .int zz, .ref a9, .ref a10, .ref a11, .ref a12])), (a1, .inl (cI, 8, .inl K)), (a4, .inl (cI, 140, .inl (cR1 Wo K kb i))), (a5, .inl (cI, 132, .inl Rn)), (a9, .inl (cI, 128, .inl TB)), (a10, .inl (cI, 4, .inl b)), (a11, .inl (cI, 4, .inl d))] H → va_D A [(h0, .inr (1, [.int (nI 0), .ref a1, .int (nI kb), .int rd, .ref a4, .ref a5, .ref a6, .ref a7, .int zz, .ref a9, .ref a10, .ref a11, .ref a12])), (a1, .inl (cI, 8, .inl K)), (a4, .inl (cI, 140, .inl (cR1 Wo K kb i))), (a5, .inl (cI, 132, .inl Rn)), (a9, .inl (cI, 128, .inl TB)), (a10, .inl (cI, 4, .inl b)), (a11, .inl (cI, 4, .inl d))] → va_S A s.heap H locs → ∀ (ls : Array Slot), lv_has ls 3 [(0, .ref h0), (1, .int (nI i))] → W p l e ((headSpec wsX1_ready ({ frames := 2, cells := 0, slots := 0, locals := 49 })).room) s m ([.ref h0] : List Value).toArray below meth c H locs 0 0 (MQ below (va_Qv (fun _ : Nat → Nat → Int32 => True) (fun u => BW D [(cI, .int)] A [(h0, .inr (1, [.int (nI 0), .ref a1, .int (nI kb), .int (nI 1), .ref a4, .ref a5, .ref a6, .ref a7, .int zz, .ref a9, .ref a10, .ref a11, .ref a12])), (a1, .inl (cI, 8, .inl K)), (a4, .inl (cI, 140, .inl (cSp (cR1 Wo K kb 8) 132))), (a5, .inl (cI, 132, .inl (mRd Rn (cSp (cR1 Wo K kb 8) 132) 33))), (a9, .inl (cI, 128, .inl TB)), (a10, .inl (cI, 4, .inl (u 0))), (a11, .inl (cI, 4, .inl (u 1)))]) A) ([.ref h0] : List Value).toArray s 0 0 (A)) (F0 m 7 ls []) := by
    intro fu
    induction fu with
      | zero => intro i hii hfi; exact absurd hfi (by omega)
      | succ fu ih =>
        intro i hii hfi H locs hP hD hS ls hl
        refine lv_iload_n hx hb dX1_ready_7 rfl (lv_at hl 1 rfl) ?_
        refine lv_bipush (v := nI 8) hx hb dX1_ready_8 (by decide) ?_
        refine wk_geN (tgt := 71) hx hb (a := i) (b := 8) (by omega) (by decide) dX1_ready_10 (by decide) (fun c10 => ?_) (fun c10 => ?_)
        · obtain rfl : i = 8 := by omega
          refine lv_iconst (v := nI 0) hx hb dX1_ready_71 (by decide) ?_
          refine lv_istore_n (lv' := [(1, .int (nI 0)), (0, .ref h0)]) hx hb dX1_ready_72 rfl hl (by decide) rfl (fun ls hl => ?_)
          exact lp2 133 0 (by omega) (by omega) _ _ hP hD hS ls (lv_sub hl [1, 0] rfl)
        · refine lv_aload_n hx hb dX1_ready_13 rfl (lv_at hl 0 rfl) ?_
          refine va_get (D := D) (ci := 1) (v := .ref a4) (C := RX1) (T := TX1) (N := 13) hx hb hts hinX1 hown hK hP 0 rfl rfl 4 (by decide) (hts (.fieldLink RX1 13 "SlicedCipherModel" "words" "[I") (by decide +kernel)) (fun _ h9 => h9) rfl dX1_ready_14 ?_
          refine lv_iload_n hx hb dX1_ready_17 rfl (lv_at hl 1 rfl) ?_
          refine lv_aload_n hx hb dX1_ready_18 rfl (lv_at hl 0 rfl) ?_
          refine lv_iconst (v := nI 4) hx hb dX1_ready_19 (by decide) ?_
          refine lv_iload_n hx hb dX1_ready_20 rfl (lv_at hl 1 rfl) ?_
          refine wk_imulN hx hb (a := 4) (b := i) dX1_ready_21 ?_
          refine wk_Vi (b := h0) (As := [.int (nI (4 * i))]) (rest := [.int (nI i), .ref a4]) (wc := [(h0, .inr (1, [.int (nI 0), .ref a1, .int (nI kb), .int rd, .ref a4, .ref a5, .ref a6, .ref a7, .int zz, .ref a9, .ref a10, .ref a11, .ref a12])), (a1, .inl (cI, 8, .inl K))]) (ci := 1) (q0 := 0) ⟨hx, hb, hml, hown, hts⟩ (c_X1_keyByte l D cI _ h0 a1 a4 a5 a6 a7 a9 a10 a11 a12 (nI 0) rd zz kb (4 * i) K (by omega) h2) (cwV 1 hts gX1_ready_X1_keyByte rfl rfl rfl (by decide +kernel) ⟨Nat.le_of_ble_eq_true rfl, Nat.le_of_ble_eq_true rfl⟩) (fun _ _ _ _ h => h) (fun _ _ _ => trivial) hK hP hD rfl rfl [0, 1] rfl (by decide) rfl hl.1 rfl (Nat.le_of_ble_eq_true rfl) dX1_ready_22 ⟨Nat.zero_le _, Nat.zero_le _⟩ (fun z9 hz9 => ?_)
          refine wk_i (y := cKB K kb (4 * i)) hz9 ?_
          refine lv_aload_n hx hb dX1_ready_25 rfl (lv_at hl 0 rfl) ?_
          refine lv_iconst (v := nI 4) hx hb dX1_ready_26 (by decide) ?_
          refine lv_iload_n hx hb dX1_ready_27 rfl (lv_at hl 1 rfl) ?_
          refine wk_imulN hx hb (a := 4) (b := i) dX1_ready_28 ?_
          refine lv_iconst (v := nI 1) hx hb dX1_ready_29 (by decide) ?_
          refine wk_iaddN hx hb (a := 4 * i) (b := 1) dX1_ready_30 ?_
          refine wk_Vi (b := h0) (As := [.int (nI ((4 * i) + 1))]) (rest := [.int (cKB K kb (4 * i)), .int (nI i), .ref a4]) (wc := [(h0, .inr (1, [.int (nI 0), .ref a1, .int (nI kb), .int rd, .ref a4, .ref a5, .ref a6, .ref a7, .int zz, .ref a9, .ref a10, .ref a11, .ref a12])), (a1, .inl (cI, 8, .inl K))]) (ci := 1) (q0 := 0) ⟨hx, hb, hml, hown, hts⟩ (c_X1_keyByte l D cI _ h0 a1 a4 a5 a6 a7 a9 a10 a11 a12 (nI 0) rd zz kb ((4 * i) + 1) K (by omega) h2) (cwV 1 hts gX1_ready_X1_keyByte rfl rfl rfl (by decide +kernel) ⟨Nat.le_of_ble_eq_true rfl, Nat.le_of_ble_eq_true rfl⟩) (fun _ _ _ _ h => h) (fun _ _ _ => trivial) hK hP hD rfl rfl [0, 1] rfl (by decide) rfl hl.1 rfl (Nat.le_of_ble_eq_true rfl) dX1_ready_31 ⟨Nat.zero_le _, Nat.zero_le _⟩ (fun z9 hz9 => ?_)
          refine wk_i (y := cKB K kb ((4 * i) + 1)) hz9 ?_
          refine lv_bipush (v := nI 8) hx hb dX1_ready_34 (by decide) ?_
          refine lv_ishl hx hb dX1_ready_36 ?_
          refine lv_iadd hx hb dX1_ready_37 ?_
          refine lv_aload_n hx hb dX1_ready_38 rfl (lv_at hl 0 rfl) ?_
          refine lv_iconst (v := nI 4) hx hb dX1_ready_39 (by decide) ?_
          refine lv_iload_n hx hb dX1_ready_40 rfl (lv_at hl 1 rfl) ?_
          refine wk_imulN hx hb (a := 4) (b := i) dX1_ready_41 ?_
          refine lv_iconst (v := nI 2) hx hb dX1_ready_42 (by decide) ?_
          refine wk_iaddN hx hb (a := 4 * i) (b := 2) dX1_ready_43 ?_
          refine wk_Vi (b := h0) (As := [.int (nI ((4 * i) + 2))]) (rest := [.int ((cKB K kb (4 * i)) + ((cKB K kb ((4 * i) + 1)) <<< ((nI 8) &&& 31))), .int (nI i), .ref a4]) (wc := [(h0, .inr (1, [.int (nI 0), .ref a1, .int (nI kb), .int rd, .ref a4, .ref a5, .ref a6, .ref a7, .int zz, .ref a9, .ref a10, .ref a11, .ref a12])), (a1, .inl (cI, 8, .inl K))]) (ci := 1) (q0 := 0) ⟨hx, hb, hml, hown, hts⟩ (c_X1_keyByte l D cI _ h0 a1 a4 a5 a6 a7 a9 a10 a11 a12 (nI 0) rd zz kb ((4 * i) + 2) K (by omega) h2) (cwV 1 hts gX1_ready_X1_keyByte rfl rfl rfl (by decide +kernel) ⟨Nat.le_of_ble_eq_true rfl, Nat.le_of_ble_eq_true rfl⟩) (fun _ _ _ _ h => h) (fun _ _ _ => trivial) hK hP hD rfl rfl [0, 1] rfl (by decide) rfl hl.1 rfl (Nat.le_of_ble_eq_true rfl) dX1_ready_44 ⟨Nat.zero_le _, Nat.zero_le _⟩ (fun z9 hz9 => ?_)
          refine wk_i (y := cKB K kb ((4 * i) + 2)) hz9 ?_
          refine lv_bipush (v := nI 16) hx hb dX1_ready_47 (by decide) ?_
          refine lv_ishl hx hb dX1_ready_49 ?_
          refine lv_iadd hx hb dX1_ready_50 ?_
          refine lv_aload_n hx hb dX1_ready_51 rfl (lv_at hl 0 rfl) ?_
          refine lv_iconst (v := nI 4) hx hb dX1_ready_52 (by decide) ?_
          refine lv_iload_n hx hb dX1_ready_53 rfl (lv_at hl 1 rfl) ?_
          refine wk_imulN hx hb (a := 4) (b := i) dX1_ready_54 ?_
          refine lv_iconst (v := nI 3) hx hb dX1_ready_55 (by decide) ?_
          refine wk_iaddN hx hb (a := 4 * i) (b := 3) dX1_ready_56 ?_
          refine wk_Vi (b := h0) (As := [.int (nI ((4 * i) + 3))]) (rest := [.int (((cKB K kb (4 * i)) + ((cKB K kb ((4 * i) + 1)) <<< ((nI 8) &&& 31))) + ((cKB K kb ((4 * i) + 2)) <<< ((nI 16) &&& 31))), .int (nI i), .ref a4]) (wc := [(h0, .inr (1, [.int (nI 0), .ref a1, .int (nI kb), .int rd, .ref a4, .ref a5, .ref a6, .ref a7, .int zz, .ref a9, .ref a10, .ref a11, .ref a12])), (a1, .inl (cI, 8, .inl K))]) (ci := 1) (q0 := 0) ⟨hx, hb, hml, hown, hts⟩ (c_X1_keyByte l D cI _ h0 a1 a4 a5 a6 a7 a9 a10 a11 a12 (nI 0) rd zz kb ((4 * i) + 3) K (by omega) h2) (cwV 1 hts gX1_ready_X1_keyByte rfl rfl rfl (by decide +kernel) ⟨Nat.le_of_ble_eq_true rfl, Nat.le_of_ble_eq_true rfl⟩) (fun _ _ _ _ h => h) (fun _ _ _ => trivial) hK hP hD rfl rfl [0, 1] rfl (by decide) rfl hl.1 rfl (Nat.le_of_ble_eq_true rfl) dX1_ready_57 ⟨Nat.zero_le _, Nat.zero_le _⟩ (fun z9 hz9 => ?_)
          refine wk_i (y := cKB K kb ((4 * i) + 3)) hz9 ?_
          refine lv_bipush (v := nI 24) hx hb dX1_ready_60 (by decide) ?_
          refine lv_ishl hx hb dX1_ready_62 ?_
          refine lv_iadd hx hb dX1_ready_63 ?_
          refine wk_i (y := cKW K kb i 4) (cKW_sum K kb i) ?_
          refine wk_iast hx hb hK hP hD hS 2 0 rfl rfl (k := i) (x := cKW K kb i 4) (by omega) (by decide) dX1_ready_64 (fun H locs hP hD hS => ?_)
          have hP : va_P D vwCl [(h0, .inr (1, [.int (nI 0), .ref a1, .int (nI kb), .int rd, .ref a4, .ref a5, .ref a6, .ref a7, .int zz, .ref a9, .ref a10, .ref a11, .ref a12])), (a1, .inl (cI, 8, .inl K)), (a4, .inl (cI, 140, .inl (upd (cR1 Wo K kb i) i (cKW K kb i 4)))), (a5, .inl (cI, 132, .inl Rn)), (a9, .inl (cI, 128, .inl TB)), (a10, .inl (cI, 4, .inl b)), (a11, .inl (cI, 4, .inl d))] H := hP
          have hD : va_D A [(h0, .inr (1, [.int (nI 0), .ref a1, .int (nI kb), .int rd, .ref a4, .ref a5, .ref a6, .ref a7, .int zz, .ref a9, .ref a10, .ref a11, .ref a12])), (a1, .inl (cI, 8, .inl K)), (a4, .inl (cI, 140, .inl (upd (cR1 Wo K kb i) i (cKW K kb i 4)))), (a5, .inl (cI, 132, .inl Rn)), (a9, .inl (cI, 128, .inl TB)), (a10, .inl (cI, 4, .inl b)), (a11, .inl (cI, 4, .inl d))] := hD
          refine lv_iinc (v := nI (i + 1)) (lv' := [(1, .int (nI (i + 1))), (0, .ref h0)]) hx hb dX1_ready_65 hl (k := 1) rfl (wk_inc i (by decide)) (by decide) rfl (fun ls hl => ?_)
          refine lv_goto (tgt := 7) hx hb dX1_ready_68 (by decide) ?_
          exact ih (i + 1) (by omega) (by omega) _ _ hP hD hS ls (lv_sub hl [1, 0] rfl)
  refine lv_aload_n hx hb dX1_ready_0 rfl (lv_at hl 0 rfl) ?_
  refine lv_iconst (v := nI 0) hx hb dX1_ready_1 (by decide) ?_
  refine va_put (D := D) (ci := 1) (v := .int (nI 0)) (ty := .int) (C := RX1) (T := TX1) (N := 13) hx hb hts hinX1 tyX1 tyX1_ok nmX1 hown hK hP hD hS 0 rfl rfl 0 (by decide) (hts (.fieldLink RX1 41 "SlicedCipherModel" "thrown" "I") (by decide +kernel)) (fun _ h9 => h9) rfl (by decide +kernel) rfl rfl (Nat.le_of_ble_eq_true rfl) dX1_ready_2 (fun H locs hP hD hS => ?_)
  have hP : va_P D vwCl [(h0, .inr (1, [.int (nI 0), .ref a1, .int (nI kb), .int rd, .ref a4, .ref a5, .ref a6, .ref a7, .int zz, .ref a9, .ref a10, .ref a11, .ref a12])), (a1, .inl (cI, 8, .inl K)), (a4, .inl (cI, 140, .inl Wo)), (a5, .inl (cI, 132, .inl Rn)), (a9, .inl (cI, 128, .inl TB)), (a10, .inl (cI, 4, .inl b)), (a11, .inl (cI, 4, .inl d))] H := hP
  have hD : va_D A [(h0, .inr (1, [.int (nI 0), .ref a1, .int (nI kb), .int rd, .ref a4, .ref a5, .ref a6, .ref a7, .int zz, .ref a9, .ref a10, .ref a11, .ref a12])), (a1, .inl (cI, 8, .inl K)), (a4, .inl (cI, 140, .inl Wo)), (a5, .inl (cI, 132, .inl Rn)), (a9, .inl (cI, 128, .inl TB)), (a10, .inl (cI, 4, .inl b)), (a11, .inl (cI, 4, .inl d))] := hD
  refine lv_iconst (v := nI 0) hx hb dX1_ready_5 (by decide) ?_
  refine lv_istore_n (lv' := [(1, .int (nI 0)), (0, .ref h0)]) hx hb dX1_ready_6 rfl hl (by decide) rfl (fun ls hl => ?_)
  exact lp1 9 0 (by omega) (by omega) _ _ hP hD hS ls (lv_sub hl [1, 0] rfl)
