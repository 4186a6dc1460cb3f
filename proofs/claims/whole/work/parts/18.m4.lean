theorem upd_id (f : Nat → Int32) (k : Nat) : upd f k (f k) = f := by
  funext j
  unfold upd
  split
  · rename_i h; rw [h]
  · rfl
def chT (f z : Nat → Int32) (a : Nat) : Nat → Nat → Int32
  | 0 => f
  | j + 1 => upd (chT f z a j) (a + j) (chT f z a j (a + j) ^^^ z j)
def chM (d f z : Nat → Int32) (a : Nat) : Nat → Nat → Int32
  | 0 => d
  | j + 1 => upd (chM d f z a j) j (chT f z a j (a + j))
theorem chT_4 (f z : Nat → Int32) (a : Nat) : chT f z a 4 = st4 f a (x4 (ld4 f a) (ld4 z 0)) := by
  funext j
  simp [chT, st4, upd, x4, ld4]
theorem chM_4 (d f z : Nat → Int32) (a : Nat) : chM d f z a 4 = st4 d 0 (ld4 f a) := by
  funext j
  simp [chM, chT, st4, upd, ld4]
def qs (q : Qd) : Nat → Int32
  | 0 => q.1
  | 1 => q.2.1
  | 2 => q.2.2.1
  | _ => q.2.2.2
def cpq (z : Nat → Int32) (q : Qd) : Nat → Nat → Int32
  | 0 => z
  | j + 1 => upd (cpq z q j) j (qs q j)
def chU (f z : Nat → Int32) (q : Qd) (a : Nat) : Nat → Nat → Int32
  | 0 => f
  | j + 1 => upd (chU f z q a j) (a + j) (chU f z q a j (a + j) ^^^ cpq z q j j)
theorem cpq_4 (z : Nat → Int32) (q : Qd) : cpq z q 4 = st4 z 0 q := rfl
theorem chU_4 (f z : Nat → Int32) (q : Qd) (a : Nat) : chU f z q a 4 = st4 f a (x4 (ld4 f a) (ld4 z 0)) := by
  funext j
  simp [chU, cpq, st4, upd, x4, ld4]
set_option maxRecDepth 100000 in
theorem in_X1_chained : ∀ w ∈ wsX10, w ∈ wsX1_chained := by decide +kernel
set_option maxHeartbeats 4000000 in
set_option maxRecDepth 100000 in
theorem c_X1_chained0 (l : Launch) (D : va_G) (cI : ClassId) (sz : Nat) (h0 a1 a4 a5 a6 a7 a9 a10 a11 a12 : Nat) (th by0 rd zz : Int32) (at0 : Nat) (Rn f b d z : Nat → Int32) (h1 : at0 + 4 ≤ 256) : Met l yX1_chained wsX1_chained ({ frames := 5, cells := 0, slots := 0, locals := 108 }) (va_Pc [.ref h0, .int (nI at0), .int (nI 0)] (fun U => PW D [(cI, .int)] [(h0, .inr (1, [.int th, .ref a1, .int by0, .int rd, .ref a4, .ref a5, .ref a6, .ref a7, .int zz, .ref a9, .ref a10, .ref a11, .ref a12])), (a5, .inl (cI, 132, .inl Rn)), (a7, .inl (cI, 256, .inl f)), (a9, .inl (cI, 128, .inl TB)), (a10, .inl (cI, 4, .inl b)), (a11, .inl (cI, 4, .inl d)), (a12, .inl (cI, 4, .inl z))] sz U ∧ True)) (va_Qv (fun _ : Nat → Nat → Int32 => True) (fun u => BW D [(cI, .int)] (va_A [(h0, .inr (1, [.int th, .ref a1, .int by0, .int rd, .ref a4, .ref a5, .ref a6, .ref a7, .int zz, .ref a9, .ref a10, .ref a11, .ref a12])), (a5, .inl (cI, 132, .inl Rn)), (a7, .inl (cI, 256, .inl f)), (a9, .inl (cI, 128, .inl TB)), (a10, .inl (cI, 4, .inl b)), (a11, .inl (cI, 4, .inl d)), (a12, .inl (cI, 4, .inl z))] sz) [(h0, .inr (1, [.int th, .ref a1, .int by0, .int rd, .ref a4, .ref a5, .ref a6, .ref a7, .int zz, .ref a9, .ref a10, .ref a11, .ref a12])), (a5, .inl (cI, 132, .inl Rn)), (a7, .inl (cI, 256, .inl (st4 f at0 (cEnc (shf Rn) (x4 (ld4 f at0) (ld4 z 0)))))), (a9, .inl (cI, 128, .inl TB)), (a10, .inl (cI, 4, .inl (u 0))), (a11, .inl (cI, 4, .inl (u 1))), (a12, .inl (cI, 4, .inl (st4 z 0 (cEnc (shf Rn) (x4 (ld4 f at0) (ld4 z 0))))))]) (va_A [(h0, .inr (1, [.int th, .ref a1, .int by0, .int rd, .ref a4, .ref a5, .ref a6, .ref a7, .int zz, .ref a9, .ref a10, .ref a11, .ref a12])), (a5, .inl (cI, 132, .inl Rn)), (a7, .inl (cI, 256, .inl f)), (a9, .inl (cI, 128, .inl TB)), (a10, .inl (cI, 4, .inl b)), (a11, .inl (cI, 4, .inl d)), (a12, .inl (cI, 4, .inl z))] sz)) 0 0 (va_A [(h0, .inr (1, [.int th, .ref a1, .int by0, .int rd, .ref a4, .ref a5, .ref a6, .ref a7, .int zz, .ref a9, .ref a10, .ref a11, .ref a12])), (a5, .inl (cI, 132, .inl Rn)), (a7, .inl (cI, 256, .inl f)), (a9, .inl (cI, 128, .inl TB)), (a10, .inl (cI, 4, .inl b)), (a11, .inl (cI, 4, .inl d)), (a12, .inl (cI, 4, .inl z))] sz) := by
  refine Met.ofW (cc := cX1_chained) (maxL := 8) (ret := none) (by decide) rfl ?_
  intro p e s m args below meth c s₁ B hml hv
  obtain ⟨rfl, ⟨hsz, hP, hK, hD0⟩, -⟩ := hv
  have hx := B.exec
  have hb := B.bytes
  have hr := B.returns
  have hts := atoms_spec (ws := wsX1_chained) B.pre
  have hown : s.vm.findClass RX1 = some m.cls := findClass_of_methodNamed B.named
  have hlocks := B.notSynchronized
  subst hsz
  have hD := hD0.self (sz := s.heap.size)
  have hinX1 := in_X1_chained
  generalize hAe : va_A [(h0, .inr (1, [.int th, .ref a1, .int by0, .int rd, .ref a4, .ref a5, .ref a6, .ref a7, .int zz, .ref a9, .ref a10, .ref a11, .ref a12])), (a5, .inl (cI, 132, .inl Rn)), (a7, .inl (cI, 256, .inl f)), (a9, .inl (cI, 128, .inl TB)), (a10, .inl (cI, 4, .inl b)), (a11, .inl (cI, 4, .inl d)), (a12, .inl (cI, 4, .inl z))] s.heap.size = A at hD ⊢
  have hA : ∀ q : Nat, s.heap.size ≤ q → A q := fun q h => by rw [← hAe]; exact Or.inr h
  have hS : va_S A s.heap s.heap [] := va_S.rf
  have hl := lv_entry ([.ref h0, .int (nI at0), .int (nI 0)]) (n := 8) (Nat.le_of_ble_eq_true rfl)
  rw [lg_entry_eq]
  generalize (lg_sl ([.ref h0, .int (nI at0), .int (nI 0)]) ++ List.replicate (8 - (lg_sl ([.ref h0, .int (nI at0), .int (nI 0)])).length) Slot.unset).toArray = ls at hl ⊢
  have hl : lv_has ls 8 [(0, .ref h0), (1, .int (nI at0)), (2, .int (nI 0))] := hl
  have lp1 : ∀ (fu : Nat) (j : Nat), j ≤ 4 → 4 + 1 ≤ j + fu → ∀ (H : Heap) (locs : List Loc), va_P D vwCl [(h0, .inr (1, [.int th, .ref a1, .int by0, .int rd, .ref a4, .ref a5, .ref a6, .ref a7, .int zz, .ref a9, .ref a10, .ref a11, .ref a12])), (a5, .inl (cI, 132, .inl Rn)), (a7, .inl (cI, 256, .inl (chT f z at0 j))), (a9, .inl (cI, 128, .inl TB)), (a10, .inl (cI, 4, .inl b)), (a11, .inl (cI, 4, .inl (chM d f z at0 j))), (a12, .inl (cI, 4, .inl z))] H → va_D A [(h0, .inr (1, [.int th, .ref a1, .int by0, .int rd, .ref a4, .ref a5, .ref a6, .ref a7, .int zz, .ref a9, .ref a10, .ref a11, .ref a12])), (a5, .inl (cI, 132, .inl Rn)), (a7, .inl (cI, 256, .inl (chT f z at0 j))), (a9, .inl (cI, 128, .inl TB)), (a10, .inl (cI, 4, .inl b)), (a11, .inl (cI, 4, .inl (chM d f z at0 j))), (a12, .inl (cI, 4, .inl z))] → va_S A s.heap H locs → ∀ (ls : Array Slot), lv_has ls 8 [(0, .ref h0), (1, .int (nI at0)), (2, .int (nI 0)), (3, .int (nI j))] → W p l e ((headSpec wsX1_chained ({ frames := 5, cells := 0, slots := 0, locals := 108 })).room) s m ([.ref h0, .int (nI at0), .int (nI 0)] : List Value).toArray below meth c H locs 0 0 (MQ below (va_Qv (fun _ : Nat → Nat → Int32 => True) (fun u => BW D [(cI, .int)] A [(h0, .inr (1, [.int th, .ref a1, .int by0, .int rd, .ref a4, .ref a5, .ref a6, .ref a7, .int zz, .ref a9, .ref a10, .ref a11, .ref a12])), (a5, .inl (cI, 132, .inl Rn)), (a7, .inl (cI, 256, .inl (st4 f at0 (cEnc (shf Rn) (x4 (ld4 f at0) (ld4 z 0)))))), (a9, .inl (cI, 128, .inl TB)), (a10, .inl (cI, 4, .inl (u 0))), (a11, .inl (cI, 4, .inl (u 1))), (a12, .inl (cI, 4, .inl (st4 z 0 (cEnc (shf Rn) (x4 (ld4 f at0) (ld4 z 0))))))]) A) ([.ref h0, .int (nI at0), .int (nI 0)] : List Value).toArray s 0 0 (A)) (F0 m 2 ls []) := by
    intro fu
    induction fu with
      | zero => intro j hij hfj; exact absurd hfj (by omega)
      | succ fu ih =>
        intro j hij hfj H locs hP hD hS ls hl
        refine lv_iload_n hx hb dX1_chained_2 rfl (lv_at hl 3 rfl) ?_
        refine lv_iconst (v := nI 4) hx hb dX1_chained_3 (by decide) ?_
        refine wk_geN (tgt := 65) hx hb (a := j) (b := 4) (by omega) (by decide) dX1_chained_4 (by decide) (fun c4 => ?_) (fun c4 => ?_)
        · obtain rfl : j = 4 := by omega
          rw [chT_4, chM_4] at hP hD
          refine lv_aload_n hx hb dX1_chained_65 rfl (lv_at hl 0 rfl) ?_
          refine va_get (D := D) (ci := 1) (v := .ref a11) (C := RX1) (T := TX1) (N := 13) hx hb hts hinX1 hown hK hP 0 rfl rfl 11 (by decide) (hts (.fieldLink RX1 31 "SlicedCipherModel" "made" "[I") (by decide +kernel)) (fun _ h9 => h9) rfl dX1_chained_66 ?_
          refine lv_iconst (v := nI 0) hx hb dX1_chained_69 (by decide) ?_
          refine wk_iald hx hb hK hP 5 0 rfl rfl (k := 0) (by omega) (by decide) dX1_chained_70 ?_
          refine wk_i (y := f at0) (rfl) ?_
          refine lv_istore_n (lv' := [(3, .int (f at0)), (0, .ref h0), (1, .int (nI at0)), (2, .int (nI 0))]) hx hb dX1_chained_71 rfl hl (by decide) rfl (fun ls hl => ?_)
          refine lv_aload_n hx hb dX1_chained_72 rfl (lv_at hl 1 rfl) ?_
          refine va_get (D := D) (ci := 1) (v := .ref a11) (C := RX1) (T := TX1) (N := 13) hx hb hts hinX1 hown hK hP 0 rfl rfl 11 (by decide) (hts (.fieldLink RX1 31 "SlicedCipherModel" "made" "[I") (by decide +kernel)) (fun _ h9 => h9) rfl dX1_chained_73 ?_
          refine lv_iconst (v := nI 1) hx hb dX1_chained_76 (by decide) ?_
          refine wk_iald hx hb hK hP 5 0 rfl rfl (k := 1) (by omega) (by decide) dX1_chained_77 ?_
          refine wk_i (y := f (at0 + 1)) (rfl) ?_
          refine lv_istore (lv' := [(4, .int (f (at0 + 1))), (3, .int (f at0)), (0, .ref h0), (1, .int (nI at0)), (2, .int (nI 0))]) hx hb dX1_chained_78 hl (by decide) rfl (fun ls hl => ?_)
          refine lv_aload_n hx hb dX1_chained_80 rfl (lv_at hl 2 rfl) ?_
          refine va_get (D := D) (ci := 1) (v := .ref a11) (C := RX1) (T := TX1) (N := 13) hx hb hts hinX1 hown hK hP 0 rfl rfl 11 (by decide) (hts (.fieldLink RX1 31 "SlicedCipherModel" "made" "[I") (by decide +kernel)) (fun _ h9 => h9) rfl dX1_chained_81 ?_
          refine lv_iconst (v := nI 2) hx hb dX1_chained_84 (by decide) ?_
          refine wk_iald hx hb hK hP 5 0 rfl rfl (k := 2) (by omega) (by decide) dX1_chained_85 ?_
          refine wk_i (y := f (at0 + 2)) (rfl) ?_
          refine lv_istore (lv' := [(5, .int (f (at0 + 2))), (4, .int (f (at0 + 1))), (3, .int (f at0)), (0, .ref h0), (1, .int (nI at0)), (2, .int (nI 0))]) hx hb dX1_chained_86 hl (by decide) rfl (fun ls hl => ?_)
          refine lv_aload_n hx hb dX1_chained_88 rfl (lv_at hl 3 rfl) ?_
          refine va_get (D := D) (ci := 1) (v := .ref a11) (C := RX1) (T := TX1) (N := 13) hx hb hts hinX1 hown hK hP 0 rfl rfl 11 (by decide) (hts (.fieldLink RX1 31 "SlicedCipherModel" "made" "[I") (by decide +kernel)) (fun _ h9 => h9) rfl dX1_chained_89 ?_
          refine lv_iconst (v := nI 3) hx hb dX1_chained_92 (by decide) ?_
          refine wk_iald hx hb hK hP 5 0 rfl rfl (k := 3) (by omega) (by decide) dX1_chained_93 ?_
          refine wk_i (y := f (at0 + 3)) (rfl) ?_
          refine lv_istore (lv' := [(6, .int (f (at0 + 3))), (5, .int (f (at0 + 2))), (4, .int (f (at0 + 1))), (3, .int (f at0)), (0, .ref h0), (1, .int (nI at0)), (2, .int (nI 0))]) hx hb dX1_chained_94 hl (by decide) rfl (fun ls hl => ?_)
          refine lv_aload_n hx hb dX1_chained_96 rfl (lv_at hl 4 rfl) ?_
          refine lv_iload_n hx hb dX1_chained_97 rfl (lv_at hl 5 rfl) ?_
          refine lv_iload_n hx hb dX1_chained_98 rfl (lv_at hl 6 rfl) ?_
          refine wk_VE (b := h0) (As := [.int (nI at0), .int (nI 0)]) (rest := []) (wc := [(h0, .inr (1, [.int th, .ref a1, .int by0, .int rd, .ref a4, .ref a5, .ref a6, .ref a7, .int zz, .ref a9, .ref a10, .ref a11, .ref a12])), (a5, .inl (cI, 132, .inl Rn)), (a7, .inl (cI, 256, .inl (st4 f at0 (x4 (ld4 f at0) (ld4 z 0))))), (a9, .inl (cI, 128, .inl TB)), (a10, .inl (cI, 4, .inl b)), (a11, .inl (cI, 4, .inl (st4 d 0 (ld4 f at0))))]) (wr := [(a12, .inl (cI, 4, .inl z))]) (w1 := fun (u1 : Nat → Nat → Int32) => [(h0, .inr (1, [.int th, .ref a1, .int by0, .int rd, .ref a4, .ref a5, .ref a6, .ref a7, .int zz, .ref a9, .ref a10, .ref a11, .ref a12])), (a5, .inl (cI, 132, .inl Rn)), (a7, .inl (cI, 256, .inl (st4 (st4 f at0 (x4 (ld4 f at0) (ld4 z 0))) at0 (cEnc (shf Rn) (ld4 (st4 f at0 (x4 (ld4 f at0) (ld4 z 0))) at0))))), (a9, .inl (cI, 128, .inl TB)), (a10, .inl (cI, 4, .inl (u1 0))), (a11, .inl (cI, 4, .inl (u1 1)))]) (w2 := fun (u1 : Nat → Nat → Int32) => [(h0, .inr (1, [.int th, .ref a1, .int by0, .int rd, .ref a4, .ref a5, .ref a6, .ref a7, .int zz, .ref a9, .ref a10, .ref a11, .ref a12])), (a5, .inl (cI, 132, .inl Rn)), (a7, .inl (cI, 256, .inl (st4 (st4 f at0 (x4 (ld4 f at0) (ld4 z 0))) at0 (cEnc (shf Rn) (ld4 (st4 f at0 (x4 (ld4 f at0) (ld4 z 0))) at0))))), (a9, .inl (cI, 128, .inl TB)), (a10, .inl (cI, 4, .inl (u1 0))), (a11, .inl (cI, 4, .inl (u1 1))), (a12, .inl (cI, 4, .inl z))]) (ci := 1) (q0 := 0) ⟨hx, hb, hml, hown, hts⟩ (c_X1_alone0 l D cI _ h0 a1 a4 a5 a6 a7 a9 a10 a11 a12 th by0 rd zz at0 Rn (st4 f at0 (x4 (ld4 f at0) (ld4 z 0))) b (st4 d 0 (ld4 f at0)) h1) (cwV 2 hts gX1_chained_X1_alone rfl rfl rfl (by decide +kernel) ⟨Nat.le_of_ble_eq_true rfl, Nat.le_of_ble_eq_true rfl⟩) (fun _ _ _ _ h => h) (fun _ _ _ _ => trivial) hK hP hD hS hA rfl rfl [0, 1, 2, 3, 4, 5] [6] rfl (by decide) rfl (by decide) (by decide) [1, 2, 3, 4, 5, 6, 0] (fun _ => rfl) (by decide) rfl hl.1 rfl (Nat.le_of_ble_eq_true rfl) dX1_chained_99 ⟨Nat.zero_le _, Nat.zero_le _⟩ (fun u1 H locs hu1 hP hD hS => ?_)
          have hP : va_P D vwCl [(h0, .inr (1, [.int th, .ref a1, .int by0, .int rd, .ref a4, .ref a5, .ref a6, .ref a7, .int zz, .ref a9, .ref a10, .ref a11, .ref a12])), (a5, .inl (cI, 132, .inl Rn)), (a7, .inl (cI, 256, .inl (st4 (st4 f at0 (x4 (ld4 f at0) (ld4 z 0))) at0 (cEnc (shf Rn) (ld4 (st4 f at0 (x4 (ld4 f at0) (ld4 z 0))) at0))))), (a9, .inl (cI, 128, .inl TB)), (a10, .inl (cI, 4, .inl (u1 0))), (a11, .inl (cI, 4, .inl (u1 1))), (a12, .inl (cI, 4, .inl z))] H := hP
          have hD : va_D A [(h0, .inr (1, [.int th, .ref a1, .int by0, .int rd, .ref a4, .ref a5, .ref a6, .ref a7, .int zz, .ref a9, .ref a10, .ref a11, .ref a12])), (a5, .inl (cI, 132, .inl Rn)), (a7, .inl (cI, 256, .inl (st4 (st4 f at0 (x4 (ld4 f at0) (ld4 z 0))) at0 (cEnc (shf Rn) (ld4 (st4 f at0 (x4 (ld4 f at0) (ld4 z 0))) at0))))), (a9, .inl (cI, 128, .inl TB)), (a10, .inl (cI, 4, .inl (u1 0))), (a11, .inl (cI, 4, .inl (u1 1))), (a12, .inl (cI, 4, .inl z))] := hD
          simp only [ld4_st4, st4_st4] at hP hD
          have hP : va_P D vwCl [(h0, .inr (1, [.int th, .ref a1, .int by0, .int rd, .ref a4, .ref a5, .ref a6, .ref a7, .int zz, .ref a9, .ref a10, .ref a11, .ref a12])), (a5, .inl (cI, 132, .inl Rn)), (a7, .inl (cI, 256, .inl (st4 f at0 (cEnc (shf Rn) (x4 (ld4 f at0) (ld4 z 0)))))), (a9, .inl (cI, 128, .inl TB)), (a10, .inl (cI, 4, .inl (u1 0))), (a11, .inl (cI, 4, .inl (u1 1))), (a12, .inl (cI, 4, .inl z))] H := hP
          have hD : va_D A [(h0, .inr (1, [.int th, .ref a1, .int by0, .int rd, .ref a4, .ref a5, .ref a6, .ref a7, .int zz, .ref a9, .ref a10, .ref a11, .ref a12])), (a5, .inl (cI, 132, .inl Rn)), (a7, .inl (cI, 256, .inl (st4 f at0 (cEnc (shf Rn) (x4 (ld4 f at0) (ld4 z 0)))))), (a9, .inl (cI, 128, .inl TB)), (a10, .inl (cI, 4, .inl (u1 0))), (a11, .inl (cI, 4, .inl (u1 1))), (a12, .inl (cI, 4, .inl z))] := hD
          refine lv_iconst (v := nI 0) hx hb dX1_chained_102 (by decide) ?_
          refine lv_istore (lv' := [(7, .int (nI 0)), (6, .int (f (at0 + 3))), (5, .int (f (at0 + 2))), (4, .int (f (at0 + 1))), (3, .int (f at0)), (0, .ref h0), (1, .int (nI at0)), (2, .int (nI 0))]) hx hb dX1_chained_103 hl (by decide) rfl (fun ls hl => ?_)
          have lp2 : ∀ (fu : Nat) (j : Nat), j ≤ 4 → 4 + 1 ≤ j + fu → ∀ (H : Heap) (locs : List Loc), va_P D vwCl [(h0, .inr (1, [.int th, .ref a1, .int by0, .int rd, .ref a4, .ref a5, .ref a6, .ref a7, .int zz, .ref a9, .ref a10, .ref a11, .ref a12])), (a5, .inl (cI, 132, .inl Rn)), (a7, .inl (cI, 256, .inl (st4 f at0 (cEnc (shf Rn) (x4 (ld4 f at0) (ld4 z 0)))))), (a9, .inl (cI, 128, .inl TB)), (a10, .inl (cI, 4, .inl (u1 0))), (a11, .inl (cI, 4, .inl (u1 1))), (a12, .inl (cI, 4, .inl (cpI z (st4 f at0 (cEnc (shf Rn) (x4 (ld4 f at0) (ld4 z 0)))) at0 j)))] H → va_D A [(h0, .inr (1, [.int th, .ref a1, .int by0, .int rd, .ref a4, .ref a5, .ref a6, .ref a7, .int zz, .ref a9, .ref a10, .ref a11, .ref a12])), (a5, .inl (cI, 132, .inl Rn)), (a7, .inl (cI, 256, .inl (st4 f at0 (cEnc (shf Rn) (x4 (ld4 f at0) (ld4 z 0)))))), (a9, .inl (cI, 128, .inl TB)), (a10, .inl (cI, 4, .inl (u1 0))), (a11, .inl (cI, 4, .inl (u1 1))), (a12, .inl (cI, 4, .inl (cpI z (st4 f at0 (cEnc (shf Rn) (x4 (ld4 f at0) (ld4 z 0)))) at0 j)))] → va_S A s.heap H locs → ∀ (ls : Array Slot), lv_has ls 8 [(0, .ref h0), (1, .int (nI at0)), (2, .int (nI 0)), (7, .int (nI j))] → W p l e ((headSpec wsX1_chained ({ frames := 5, cells := 0, slots := 0, locals := 108 })).room) s m ([.ref h0, .int (nI at0), .int (nI 0)] : List Value).toArray below meth c H locs 0 0 (MQ below (va_Qv (fun _ : Nat → Nat → Int32 => True) (fun u => BW D [(cI, .int)] A [(h0, .inr (1, [.int th, .ref a1, .int by0, .int rd, .ref a4, .ref a5, .ref a6, .ref a7, .int zz, .ref a9, .ref a10, .ref a11, .ref a12])), (a5, .inl (cI, 132, .inl Rn)), (a7, .inl (cI, 256, .inl (st4 f at0 (cEnc (shf Rn) (x4 (ld4 f at0) (ld4 z 0)))))), (a9, .inl (cI, 128, .inl TB)), (a10, .inl (cI, 4, .inl (u 0))), (a11, .inl (cI, 4, .inl (u 1))), (a12, .inl (cI, 4, .inl (st4 z 0 (cEnc (shf Rn) (x4 (ld4 f at0) (ld4 z 0))))))]) A) ([.ref h0, .int (nI at0), .int (nI 0)] : List Value).toArray s 0 0 (A)) (F0 m 105 ls []) := by
            intro fu
            induction fu with
              | zero => intro j hij hfj; exact absurd hfj (by omega)
              | succ fu ih =>
                intro j hij hfj H locs hP hD hS ls hl
                refine lv_iload hx hb dX1_chained_105 (lv_at hl 3 rfl) ?_
                refine lv_iconst (v := nI 4) hx hb dX1_chained_107 (by decide) ?_
                refine wk_geN (tgt := 215) hx hb (a := j) (b := 4) (by omega) (by decide) dX1_chained_108 (by decide) (fun c108 => ?_) (fun c108 => ?_)
                · obtain rfl : j = 4 := by omega
                  rw [cpI_4, ld4_st4] at hP hD
                  exact W.vret hx hb hr (fun t ht hW => ⟨⟨(fun k9 => match k9 with | 0 => u1 0 | _ => u1 1), rfl, trivial, by rw [ht]; exact hP, va_K.moved hW.alike hK, hD⟩, hS.F ht⟩) hS.2.2 dX1_chained_215
                · refine lv_aload_n hx hb dX1_chained_111 rfl (lv_at hl 0 rfl) ?_
                  refine va_get (D := D) (ci := 1) (v := .ref a7) (C := RX1) (T := TX1) (N := 13) hx hb hts hinX1 hown hK hP 0 rfl rfl 7 (by decide) (hts (.fieldLink RX1 22 "SlicedCipherModel" "tape" "[I") (by decide +kernel)) (fun _ h9 => h9) rfl dX1_chained_112 ?_
                  refine lv_iload_n hx hb dX1_chained_115 rfl (lv_at hl 1 rfl) ?_
                  refine lv_iload hx hb dX1_chained_116 (lv_at hl 3 rfl) ?_
                  refine wk_iaddN hx hb (a := at0) (b := j) dX1_chained_118 ?_
                  refine lv_iload_n hx hb dX1_chained_119 rfl (lv_at hl 2 rfl) ?_
                  refine wk_eq0N (tgt := 143) hx hb (a := 0) (by decide) dX1_chained_120 (by decide) (fun c120 => ?_) (fun c120 => absurd c120 (fun h => h rfl))
                  refine lv_aload_n hx hb dX1_chained_143 rfl (lv_at hl 0 rfl) ?_
                  refine va_get (D := D) (ci := 1) (v := .ref a7) (C := RX1) (T := TX1) (N := 13) hx hb hts hinX1 hown hK hP 0 rfl rfl 7 (by decide) (hts (.fieldLink RX1 22 "SlicedCipherModel" "tape" "[I") (by decide +kernel)) (fun _ h9 => h9) rfl dX1_chained_144 ?_
                  refine lv_iload_n hx hb dX1_chained_147 rfl (lv_at hl 1 rfl) ?_
                  refine lv_iload hx hb dX1_chained_148 (lv_at hl 3 rfl) ?_
                  refine wk_iaddN hx hb (a := at0) (b := j) dX1_chained_150 ?_
                  refine wk_iald hx hb hK hP 2 0 rfl rfl (k := at0 + j) (by omega) (by decide) dX1_chained_151 ?_
                  refine wk_iast hx hb hK hP hD hS 2 0 rfl rfl (k := at0 + j) (x := (st4 f at0 (cEnc (shf Rn) (x4 (ld4 f at0) (ld4 z 0)))) (at0 + j)) (by omega) (by decide) dX1_chained_152 (fun H locs hP hD hS => ?_)
                  have hP : va_P D vwCl [(h0, .inr (1, [.int th, .ref a1, .int by0, .int rd, .ref a4, .ref a5, .ref a6, .ref a7, .int zz, .ref a9, .ref a10, .ref a11, .ref a12])), (a5, .inl (cI, 132, .inl Rn)), (a7, .inl (cI, 256, .inl (upd (st4 f at0 (cEnc (shf Rn) (x4 (ld4 f at0) (ld4 z 0)))) (at0 + j) ((st4 f at0 (cEnc (shf Rn) (x4 (ld4 f at0) (ld4 z 0)))) (at0 + j))))), (a9, .inl (cI, 128, .inl TB)), (a10, .inl (cI, 4, .inl (u1 0))), (a11, .inl (cI, 4, .inl (u1 1))), (a12, .inl (cI, 4, .inl (cpI z (st4 f at0 (cEnc (shf Rn) (x4 (ld4 f at0) (ld4 z 0)))) at0 j)))] H := hP
                  have hD : va_D A [(h0, .inr (1, [.int th, .ref a1, .int by0, .int rd, .ref a4, .ref a5, .ref a6, .ref a7, .int zz, .ref a9, .ref a10, .ref a11, .ref a12])), (a5, .inl (cI, 132, .inl Rn)), (a7, .inl (cI, 256, .inl (upd (st4 f at0 (cEnc (shf Rn) (x4 (ld4 f at0) (ld4 z 0)))) (at0 + j) ((st4 f at0 (cEnc (shf Rn) (x4 (ld4 f at0) (ld4 z 0)))) (at0 + j))))), (a9, .inl (cI, 128, .inl TB)), (a10, .inl (cI, 4, .inl (u1 0))), (a11, .inl (cI, 4, .inl (u1 1))), (a12, .inl (cI, 4, .inl (cpI z (st4 f at0 (cEnc (shf Rn) (x4 (ld4 f at0) (ld4 z 0)))) at0 j)))] := hD
                  rw [upd_id] at hP hD
                  have hP : va_P D vwCl [(h0, .inr (1, [.int th, .ref a1, .int by0, .int rd, .ref a4, .ref a5, .ref a6, .ref a7, .int zz, .ref a9, .ref a10, .ref a11, .ref a12])), (a5, .inl (cI, 132, .inl Rn)), (a7, .inl (cI, 256, .inl (st4 f at0 (cEnc (shf Rn) (x4 (ld4 f at0) (ld4 z 0)))))), (a9, .inl (cI, 128, .inl TB)), (a10, .inl (cI, 4, .inl (u1 0))), (a11, .inl (cI, 4, .inl (u1 1))), (a12, .inl (cI, 4, .inl (cpI z (st4 f at0 (cEnc (shf Rn) (x4 (ld4 f at0) (ld4 z 0)))) at0 j)))] H := hP
                  have hD : va_D A [(h0, .inr (1, [.int th, .ref a1, .int by0, .int rd, .ref a4, .ref a5, .ref a6, .ref a7, .int zz, .ref a9, .ref a10, .ref a11, .ref a12])), (a5, .inl (cI, 132, .inl Rn)), (a7, .inl (cI, 256, .inl (st4 f at0 (cEnc (shf Rn) (x4 (ld4 f at0) (ld4 z 0)))))), (a9, .inl (cI, 128, .inl TB)), (a10, .inl (cI, 4, .inl (u1 0))), (a11, .inl (cI, 4, .inl (u1 1))), (a12, .inl (cI, 4, .inl (cpI z (st4 f at0 (cEnc (shf Rn) (x4 (ld4 f at0) (ld4 z 0)))) at0 j)))] := hD
                  refine lv_aload_n hx hb dX1_chained_153 rfl (lv_at hl 0 rfl) ?_
                  refine va_get (D := D) (ci := 1) (v := .ref a12) (C := RX1) (T := TX1) (N := 13) hx hb hts hinX1 hown hK hP 0 rfl rfl 12 (by decide) (hts (.fieldLink RX1 34 "SlicedCipherModel" "last" "[I") (by decide +kernel)) (fun _ h9 => h9) rfl dX1_chained_154 ?_
                  refine lv_iload hx hb dX1_chained_157 (lv_at hl 3 rfl) ?_
                  refine lv_iload_n hx hb dX1_chained_159 rfl (lv_at hl 2 rfl) ?_
                  refine wk_ne0N (tgt := 175) hx hb (a := 0) (by decide) dX1_chained_160 (by decide) (fun c160 => absurd c160 (fun h => h rfl)) (fun c160 => ?_)
                  refine lv_aload_n hx hb dX1_chained_163 rfl (lv_at hl 0 rfl) ?_
                  refine va_get (D := D) (ci := 1) (v := .ref a7) (C := RX1) (T := TX1) (N := 13) hx hb hts hinX1 hown hK hP 0 rfl rfl 7 (by decide) (hts (.fieldLink RX1 22 "SlicedCipherModel" "tape" "[I") (by decide +kernel)) (fun _ h9 => h9) rfl dX1_chained_164 ?_
                  refine lv_iload_n hx hb dX1_chained_167 rfl (lv_at hl 1 rfl) ?_
                  refine lv_iload hx hb dX1_chained_168 (lv_at hl 3 rfl) ?_
                  refine wk_iaddN hx hb (a := at0) (b := j) dX1_chained_170 ?_
                  refine wk_iald hx hb hK hP 2 0 rfl rfl (k := at0 + j) (by omega) (by decide) dX1_chained_171 ?_
                  refine lv_goto (tgt := 208) hx hb dX1_chained_172 (by decide) ?_
                  refine wk_iast hx hb hK hP hD hS 6 0 rfl rfl (k := j) (x := (st4 f at0 (cEnc (shf Rn) (x4 (ld4 f at0) (ld4 z 0)))) (at0 + j)) (by omega) (by decide) dX1_chained_208 (fun H locs hP hD hS => ?_)
                  have hP : va_P D vwCl [(h0, .inr (1, [.int th, .ref a1, .int by0, .int rd, .ref a4, .ref a5, .ref a6, .ref a7, .int zz, .ref a9, .ref a10, .ref a11, .ref a12])), (a5, .inl (cI, 132, .inl Rn)), (a7, .inl (cI, 256, .inl (st4 f at0 (cEnc (shf Rn) (x4 (ld4 f at0) (ld4 z 0)))))), (a9, .inl (cI, 128, .inl TB)), (a10, .inl (cI, 4, .inl (u1 0))), (a11, .inl (cI, 4, .inl (u1 1))), (a12, .inl (cI, 4, .inl (upd (cpI z (st4 f at0 (cEnc (shf Rn) (x4 (ld4 f at0) (ld4 z 0)))) at0 j) j ((st4 f at0 (cEnc (shf Rn) (x4 (ld4 f at0) (ld4 z 0)))) (at0 + j)))))] H := hP
                  have hD : va_D A [(h0, .inr (1, [.int th, .ref a1, .int by0, .int rd, .ref a4, .ref a5, .ref a6, .ref a7, .int zz, .ref a9, .ref a10, .ref a11, .ref a12])), (a5, .inl (cI, 132, .inl Rn)), (a7, .inl (cI, 256, .inl (st4 f at0 (cEnc (shf Rn) (x4 (ld4 f at0) (ld4 z 0)))))), (a9, .inl (cI, 128, .inl TB)), (a10, .inl (cI, 4, .inl (u1 0))), (a11, .inl (cI, 4, .inl (u1 1))), (a12, .inl (cI, 4, .inl (upd (cpI z (st4 f at0 (cEnc (shf Rn) (x4 (ld4 f at0) (ld4 z 0)))) at0 j) j ((st4 f at0 (cEnc (shf Rn) (x4 (ld4 f at0) (ld4 z 0)))) (at0 + j)))))] := hD
                  refine lv_iinc (v := nI (j + 1)) (lv' := [(7, .int (nI (j + 1))), (0, .ref h0), (1, .int (nI at0)), (2, .int (nI 0))]) hx hb dX1_chained_209 hl (k := 3) rfl (wk_inc j (by decide)) (by decide) rfl (fun ls hl => ?_)
                  refine lv_goto (tgt := 105) hx hb dX1_chained_212 (by decide) ?_
                  exact ih (j + 1) (by omega) (by omega) _ _ hP hD hS ls (lv_sub hl [1, 2, 3, 0] rfl)
          exact lp2 5 0 (by omega) (by omega) _ _ hP hD hS ls (lv_sub hl [5, 6, 7, 0] rfl)
        · refine lv_aload_n hx hb dX1_chained_7 rfl (lv_at hl 0 rfl) ?_
          refine va_get (D := D) (ci := 1) (v := .ref a11) (C := RX1) (T := TX1) (N := 13) hx hb hts hinX1 hown hK hP 0 rfl rfl 11 (by decide) (hts (.fieldLink RX1 31 "SlicedCipherModel" "made" "[I") (by decide +kernel)) (fun _ h9 => h9) rfl dX1_chained_8 ?_
          refine lv_iload_n hx hb dX1_chained_11 rfl (lv_at hl 3 rfl) ?_
          refine lv_aload_n hx hb dX1_chained_12 rfl (lv_at hl 0 rfl) ?_
          refine va_get (D := D) (ci := 1) (v := .ref a7) (C := RX1) (T := TX1) (N := 13) hx hb hts hinX1 hown hK hP 0 rfl rfl 7 (by decide) (hts (.fieldLink RX1 22 "SlicedCipherModel" "tape" "[I") (by decide +kernel)) (fun _ h9 => h9) rfl dX1_chained_13 ?_
          refine lv_iload_n hx hb dX1_chained_16 rfl (lv_at hl 1 rfl) ?_
          refine lv_iload_n hx hb dX1_chained_17 rfl (lv_at hl 3 rfl) ?_
          refine wk_iaddN hx hb (a := at0) (b := j) dX1_chained_18 ?_
          refine wk_iald hx hb hK hP 2 0 rfl rfl (k := at0 + j) (by omega) (by decide) dX1_chained_19 ?_
          refine wk_iast hx hb hK hP hD hS 5 0 rfl rfl (k := j) (x := (chT f z at0 j) (at0 + j)) (by omega) (by decide) dX1_chained_20 (fun H locs hP hD hS => ?_)
          have hP : va_P D vwCl [(h0, .inr (1, [.int th, .ref a1, .int by0, .int rd, .ref a4, .ref a5, .ref a6, .ref a7, .int zz, .ref a9, .ref a10, .ref a11, .ref a12])), (a5, .inl (cI, 132, .inl Rn)), (a7, .inl (cI, 256, .inl (chT f z at0 j))), (a9, .inl (cI, 128, .inl TB)), (a10, .inl (cI, 4, .inl b)), (a11, .inl (cI, 4, .inl (upd (chM d f z at0 j) j ((chT f z at0 j) (at0 + j))))), (a12, .inl (cI, 4, .inl z))] H := hP
          have hD : va_D A [(h0, .inr (1, [.int th, .ref a1, .int by0, .int rd, .ref a4, .ref a5, .ref a6, .ref a7, .int zz, .ref a9, .ref a10, .ref a11, .ref a12])), (a5, .inl (cI, 132, .inl Rn)), (a7, .inl (cI, 256, .inl (chT f z at0 j))), (a9, .inl (cI, 128, .inl TB)), (a10, .inl (cI, 4, .inl b)), (a11, .inl (cI, 4, .inl (upd (chM d f z at0 j) j ((chT f z at0 j) (at0 + j))))), (a12, .inl (cI, 4, .inl z))] := hD
          refine lv_aload_n hx hb dX1_chained_21 rfl (lv_at hl 0 rfl) ?_
          refine va_get (D := D) (ci := 1) (v := .ref a7) (C := RX1) (T := TX1) (N := 13) hx hb hts hinX1 hown hK hP 0 rfl rfl 7 (by decide) (hts (.fieldLink RX1 22 "SlicedCipherModel" "tape" "[I") (by decide +kernel)) (fun _ h9 => h9) rfl dX1_chained_22 ?_
          refine lv_iload_n hx hb dX1_chained_25 rfl (lv_at hl 1 rfl) ?_
          refine lv_iload_n hx hb dX1_chained_26 rfl (lv_at hl 3 rfl) ?_
          refine wk_iaddN hx hb (a := at0) (b := j) dX1_chained_27 ?_
          refine lv_iload_n hx hb dX1_chained_28 rfl (lv_at hl 2 rfl) ?_
          refine wk_eq0N (tgt := 43) hx hb (a := 0) (by decide) dX1_chained_29 (by decide) (fun c29 => ?_) (fun c29 => absurd c29 (fun h => h rfl))
          refine lv_aload_n hx hb dX1_chained_43 rfl (lv_at hl 0 rfl) ?_
          refine va_get (D := D) (ci := 1) (v := .ref a7) (C := RX1) (T := TX1) (N := 13) hx hb hts hinX1 hown hK hP 0 rfl rfl 7 (by decide) (hts (.fieldLink RX1 22 "SlicedCipherModel" "tape" "[I") (by decide +kernel)) (fun _ h9 => h9) rfl dX1_chained_44 ?_
          refine lv_iload_n hx hb dX1_chained_47 rfl (lv_at hl 1 rfl) ?_
          refine lv_iload_n hx hb dX1_chained_48 rfl (lv_at hl 3 rfl) ?_
          refine wk_iaddN hx hb (a := at0) (b := j) dX1_chained_49 ?_
          refine wk_iald hx hb hK hP 2 0 rfl rfl (k := at0 + j) (by omega) (by decide) dX1_chained_50 ?_
          refine lv_aload_n hx hb dX1_chained_51 rfl (lv_at hl 0 rfl) ?_
          refine va_get (D := D) (ci := 1) (v := .ref a12) (C := RX1) (T := TX1) (N := 13) hx hb hts hinX1 hown hK hP 0 rfl rfl 12 (by decide) (hts (.fieldLink RX1 34 "SlicedCipherModel" "last" "[I") (by decide +kernel)) (fun _ h9 => h9) rfl dX1_chained_52 ?_
          refine lv_iload_n hx hb dX1_chained_55 rfl (lv_at hl 3 rfl) ?_
          refine wk_iald hx hb hK hP 6 0 rfl rfl (k := j) (by omega) (by decide) dX1_chained_56 ?_
          refine lv_ixor hx hb dX1_chained_57 ?_
          refine wk_iast hx hb hK hP hD hS 2 0 rfl rfl (k := at0 + j) (x := ((chT f z at0 j) (at0 + j)) ^^^ (z j)) (by omega) (by decide) dX1_chained_58 (fun H locs hP hD hS => ?_)
          have hP : va_P D vwCl [(h0, .inr (1, [.int th, .ref a1, .int by0, .int rd, .ref a4, .ref a5, .ref a6, .ref a7, .int zz, .ref a9, .ref a10, .ref a11, .ref a12])), (a5, .inl (cI, 132, .inl Rn)), (a7, .inl (cI, 256, .inl (upd (chT f z at0 j) (at0 + j) (((chT f z at0 j) (at0 + j)) ^^^ (z j))))), (a9, .inl (cI, 128, .inl TB)), (a10, .inl (cI, 4, .inl b)), (a11, .inl (cI, 4, .inl (upd (chM d f z at0 j) j ((chT f z at0 j) (at0 + j))))), (a12, .inl (cI, 4, .inl z))] H := hP
          have hD : va_D A [(h0, .inr (1, [.int th, .ref a1, .int by0, .int rd, .ref a4, .ref a5, .ref a6, .ref a7, .int zz, .ref a9, .ref a10, .ref a11, .ref a12])), (a5, .inl (cI, 132, .inl Rn)), (a7, .inl (cI, 256, .inl (upd (chT f z at0 j) (at0 + j) (((chT f z at0 j) (at0 + j)) ^^^ (z j))))), (a9, .inl (cI, 128, .inl TB)), (a10, .inl (cI, 4, .inl b)), (a11, .inl (cI, 4, .inl (upd (chM d f z at0 j) j ((chT f z at0 j) (at0 + j))))), (a12, .inl (cI, 4, .inl z))] := hD
          refine lv_iinc (v := nI (j + 1)) (lv' := [(3, .int (nI (j + 1))), (0, .ref h0), (1, .int (nI at0)), (2, .int (nI 0))]) hx hb dX1_chained_59 hl (k := 3) rfl (wk_inc j (by decide)) (by decide) rfl (fun ls hl => ?_)
          refine lv_goto (tgt := 2) hx hb dX1_chained_62 (by decide) ?_
          exact ih (j + 1) (by omega) (by omega) _ _ hP hD hS ls (lv_sub hl [1, 2, 3, 0] rfl)
  refine lv_iconst (v := nI 0) hx hb dX1_chained_0 (by decide) ?_
  refine lv_istore_n (lv' := [(3, .int (nI 0)), (0, .ref h0), (1, .int (nI at0)), (2, .int (nI 0))]) hx hb dX1_chained_1 rfl hl (by decide) rfl (fun ls hl => ?_)
  exact lp1 5 0 (by omega) (by omega) _ _ hP hD hS ls (lv_sub hl [1, 2, 3, 0] rfl)
set_option maxHeartbeats 4000000 in
set_option maxRecDepth 100000 in
theorem c_X1_chained1 (l : Launch) (D : va_G) (cI : ClassId) (sz : Nat) (h0 a1 a4 a5 a6 a7 a9 a10 a11 a12 : Nat) (th by0 rd zz : Int32) (at0 : Nat) (Rn f b d z : Nat → Int32) (h1 : at0 + 4 ≤ 256) : Met l yX1_chained wsX1_chained ({ frames := 5, cells := 0, slots := 0, locals := 108 }) (va_Pc [.ref h0, .int (nI at0), .int (nI 1)] (fun U => PW D [(cI, .int)] [(h0, .inr (1, [.int th, .ref a1, .int by0, .int rd, .ref a4, .ref a5, .ref a6, .ref a7, .int zz, .ref a9, .ref a10, .ref a11, .ref a12])), (a5, .inl (cI, 132, .inl Rn)), (a7, .inl (cI, 256, .inl f)), (a9, .inl (cI, 128, .inl TB)), (a10, .inl (cI, 4, .inl b)), (a11, .inl (cI, 4, .inl d)), (a12, .inl (cI, 4, .inl z))] sz U ∧ True)) (va_Qv (fun _ : Nat → Nat → Int32 => True) (fun u => BW D [(cI, .int)] (va_A [(h0, .inr (1, [.int th, .ref a1, .int by0, .int rd, .ref a4, .ref a5, .ref a6, .ref a7, .int zz, .ref a9, .ref a10, .ref a11, .ref a12])), (a5, .inl (cI, 132, .inl Rn)), (a7, .inl (cI, 256, .inl f)), (a9, .inl (cI, 128, .inl TB)), (a10, .inl (cI, 4, .inl b)), (a11, .inl (cI, 4, .inl d)), (a12, .inl (cI, 4, .inl z))] sz) [(h0, .inr (1, [.int th, .ref a1, .int by0, .int rd, .ref a4, .ref a5, .ref a6, .ref a7, .int zz, .ref a9, .ref a10, .ref a11, .ref a12])), (a5, .inl (cI, 132, .inl Rn)), (a7, .inl (cI, 256, .inl (st4 f at0 (x4 (cDec (shf Rn) (ld4 f at0)) (ld4 z 0))))), (a9, .inl (cI, 128, .inl TB)), (a10, .inl (cI, 4, .inl (u 0))), (a11, .inl (cI, 4, .inl (u 1))), (a12, .inl (cI, 4, .inl (st4 z 0 (ld4 f at0))))]) (va_A [(h0, .inr (1, [.int th, .ref a1, .int by0, .int rd, .ref a4, .ref a5, .ref a6, .ref a7, .int zz, .ref a9, .ref a10, .ref a11, .ref a12])), (a5, .inl (cI, 132, .inl Rn)), (a7, .inl (cI, 256, .inl f)), (a9, .inl (cI, 128, .inl TB)), (a10, .inl (cI, 4, .inl b)), (a11, .inl (cI, 4, .inl d)), (a12, .inl (cI, 4, .inl z))] sz)) 0 0 (va_A [(h0, .inr (1, [.int th, .ref a1, .int by0, .int rd, .ref a4, .ref a5, .ref a6, .ref a7, .int zz, .ref a9, .ref a10, .ref a11, .ref a12])), (a5, .inl (cI, 132, .inl Rn)), (a7, .inl (cI, 256, .inl f)), (a9, .inl (cI, 128, .inl TB)), (a10, .inl (cI, 4, .inl b)), (a11, .inl (cI, 4, .inl d)), (a12, .inl (cI, 4, .inl z))] sz) := by
  refine Met.ofW (cc := cX1_chained) (maxL := 8) (ret := none) (by decide) rfl ?_
  intro p e s m args below meth c s₁ B hml hv
  obtain ⟨rfl, ⟨hsz, hP, hK, hD0⟩, -⟩ := hv
  have hx := B.exec
  have hb := B.bytes
  have hr := B.returns
  have hts := atoms_spec (ws := wsX1_chained) B.pre
  have hown : s.vm.findClass RX1 = some m.cls := findClass_of_methodNamed B.named
  have hlocks := B.notSynchronized
  subst hsz
  have hD := hD0.self (sz := s.heap.size)
  have hinX1 := in_X1_chained
  generalize hAe : va_A [(h0, .inr (1, [.int th, .ref a1, .int by0, .int rd, .ref a4, .ref a5, .ref a6, .ref a7, .int zz, .ref a9, .ref a10, .ref a11, .ref a12])), (a5, .inl (cI, 132, .inl Rn)), (a7, .inl (cI, 256, .inl f)), (a9, .inl (cI, 128, .inl TB)), (a10, .inl (cI, 4, .inl b)), (a11, .inl (cI, 4, .inl d)), (a12, .inl (cI, 4, .inl z))] s.heap.size = A at hD ⊢
  have hA : ∀ q : Nat, s.heap.size ≤ q → A q := fun q h => by rw [← hAe]; exact Or.inr h
  have hS : va_S A s.heap s.heap [] := va_S.rf
  have hl := lv_entry ([.ref h0, .int (nI at0), .int (nI 1)]) (n := 8) (Nat.le_of_ble_eq_true rfl)
  rw [lg_entry_eq]
  generalize (lg_sl ([.ref h0, .int (nI at0), .int (nI 1)]) ++ List.replicate (8 - (lg_sl ([.ref h0, .int (nI at0), .int (nI 1)])).length) Slot.unset).toArray = ls at hl ⊢
  have hl : lv_has ls 8 [(0, .ref h0), (1, .int (nI at0)), (2, .int (nI 1))] := hl
  have lp1 : ∀ (fu : Nat) (j : Nat), j ≤ 4 → 4 + 1 ≤ j + fu → ∀ (H : Heap) (locs : List Loc), va_P D vwCl [(h0, .inr (1, [.int th, .ref a1, .int by0, .int rd, .ref a4, .ref a5, .ref a6, .ref a7, .int zz, .ref a9, .ref a10, .ref a11, .ref a12])), (a5, .inl (cI, 132, .inl Rn)), (a7, .inl (cI, 256, .inl f)), (a9, .inl (cI, 128, .inl TB)), (a10, .inl (cI, 4, .inl b)), (a11, .inl (cI, 4, .inl (cpI d f at0 j))), (a12, .inl (cI, 4, .inl z))] H → va_D A [(h0, .inr (1, [.int th, .ref a1, .int by0, .int rd, .ref a4, .ref a5, .ref a6, .ref a7, .int zz, .ref a9, .ref a10, .ref a11, .ref a12])), (a5, .inl (cI, 132, .inl Rn)), (a7, .inl (cI, 256, .inl f)), (a9, .inl (cI, 128, .inl TB)), (a10, .inl (cI, 4, .inl b)), (a11, .inl (cI, 4, .inl (cpI d f at0 j))), (a12, .inl (cI, 4, .inl z))] → va_S A s.heap H locs → ∀ (ls : Array Slot), lv_has ls 8 [(0, .ref h0), (1, .int (nI at0)), (2, .int (nI 1)), (3, .int (nI j))] → W p l e ((headSpec wsX1_chained ({ frames := 5, cells := 0, slots := 0, locals := 108 })).room) s m ([.ref h0, .int (nI at0), .int (nI 1)] : List Value).toArray below meth c H locs 0 0 (MQ below (va_Qv (fun _ : Nat → Nat → Int32 => True) (fun u => BW D [(cI, .int)] A [(h0, .inr (1, [.int th, .ref a1, .int by0, .int rd, .ref a4, .ref a5, .ref a6, .ref a7, .int zz, .ref a9, .ref a10, .ref a11, .ref a12])), (a5, .inl (cI, 132, .inl Rn)), (a7, .inl (cI, 256, .inl (st4 f at0 (x4 (cDec (shf Rn) (ld4 f at0)) (ld4 z 0))))), (a9, .inl (cI, 128, .inl TB)), (a10, .inl (cI, 4, .inl (u 0))), (a11, .inl (cI, 4, .inl (u 1))), (a12, .inl (cI, 4, .inl (st4 z 0 (ld4 f at0))))]) A) ([.ref h0, .int (nI at0), .int (nI 1)] : List Value).toArray s 0 0 (A)) (F0 m 2 ls []) := by
    intro fu
    induction fu with
      | zero => intro j hij hfj; exact absurd hfj (by omega)
      | succ fu ih =>
        intro j hij hfj H locs hP hD hS ls hl
        refine lv_iload_n hx hb dX1_chained_2 rfl (lv_at hl 3 rfl) ?_
        refine lv_iconst (v := nI 4) hx hb dX1_chained_3 (by decide) ?_
        refine wk_geN (tgt := 65) hx hb (a := j) (b := 4) (by omega) (by decide) dX1_chained_4 (by decide) (fun c4 => ?_) (fun c4 => ?_)
        · obtain rfl : j = 4 := by omega
          rw [cpI_4] at hP hD
          refine lv_aload_n hx hb dX1_chained_65 rfl (lv_at hl 0 rfl) ?_
          refine va_get (D := D) (ci := 1) (v := .ref a11) (C := RX1) (T := TX1) (N := 13) hx hb hts hinX1 hown hK hP 0 rfl rfl 11 (by decide) (hts (.fieldLink RX1 31 "SlicedCipherModel" "made" "[I") (by decide +kernel)) (fun _ h9 => h9) rfl dX1_chained_66 ?_
          refine lv_iconst (v := nI 0) hx hb dX1_chained_69 (by decide) ?_
          refine wk_iald hx hb hK hP 5 0 rfl rfl (k := 0) (by omega) (by decide) dX1_chained_70 ?_
          refine wk_i (y := f at0) (rfl) ?_
          refine lv_istore_n (lv' := [(3, .int (f at0)), (0, .ref h0), (1, .int (nI at0)), (2, .int (nI 1))]) hx hb dX1_chained_71 rfl hl (by decide) rfl (fun ls hl => ?_)
          refine lv_aload_n hx hb dX1_chained_72 rfl (lv_at hl 1 rfl) ?_
          refine va_get (D := D) (ci := 1) (v := .ref a11) (C := RX1) (T := TX1) (N := 13) hx hb hts hinX1 hown hK hP 0 rfl rfl 11 (by decide) (hts (.fieldLink RX1 31 "SlicedCipherModel" "made" "[I") (by decide +kernel)) (fun _ h9 => h9) rfl dX1_chained_73 ?_
          refine lv_iconst (v := nI 1) hx hb dX1_chained_76 (by decide) ?_
          refine wk_iald hx hb hK hP 5 0 rfl rfl (k := 1) (by omega) (by decide) dX1_chained_77 ?_
          refine wk_i (y := f (at0 + 1)) (rfl) ?_
          refine lv_istore (lv' := [(4, .int (f (at0 + 1))), (3, .int (f at0)), (0, .ref h0), (1, .int (nI at0)), (2, .int (nI 1))]) hx hb dX1_chained_78 hl (by decide) rfl (fun ls hl => ?_)
          refine lv_aload_n hx hb dX1_chained_80 rfl (lv_at hl 2 rfl) ?_
          refine va_get (D := D) (ci := 1) (v := .ref a11) (C := RX1) (T := TX1) (N := 13) hx hb hts hinX1 hown hK hP 0 rfl rfl 11 (by decide) (hts (.fieldLink RX1 31 "SlicedCipherModel" "made" "[I") (by decide +kernel)) (fun _ h9 => h9) rfl dX1_chained_81 ?_
          refine lv_iconst (v := nI 2) hx hb dX1_chained_84 (by decide) ?_
          refine wk_iald hx hb hK hP 5 0 rfl rfl (k := 2) (by omega) (by decide) dX1_chained_85 ?_
          refine wk_i (y := f (at0 + 2)) (rfl) ?_
          refine lv_istore (lv' := [(5, .int (f (at0 + 2))), (4, .int (f (at0 + 1))), (3, .int (f at0)), (0, .ref h0), (1, .int (nI at0)), (2, .int (nI 1))]) hx hb dX1_chained_86 hl (by decide) rfl (fun ls hl => ?_)
          refine lv_aload_n hx hb dX1_chained_88 rfl (lv_at hl 3 rfl) ?_
          refine va_get (D := D) (ci := 1) (v := .ref a11) (C := RX1) (T := TX1) (N := 13) hx hb hts hinX1 hown hK hP 0 rfl rfl 11 (by decide) (hts (.fieldLink RX1 31 "SlicedCipherModel" "made" "[I") (by decide +kernel)) (fun _ h9 => h9) rfl dX1_chained_89 ?_
          refine lv_iconst (v := nI 3) hx hb dX1_chained_92 (by decide) ?_
          refine wk_iald hx hb hK hP 5 0 rfl rfl (k := 3) (by omega) (by decide) dX1_chained_93 ?_
          refine wk_i (y := f (at0 + 3)) (rfl) ?_
          refine lv_istore (lv' := [(6, .int (f (at0 + 3))), (5, .int (f (at0 + 2))), (4, .int (f (at0 + 1))), (3, .int (f at0)), (0, .ref h0), (1, .int (nI at0)), (2, .int (nI 1))]) hx hb dX1_chained_94 hl (by decide) rfl (fun ls hl => ?_)
          refine lv_aload_n hx hb dX1_chained_96 rfl (lv_at hl 4 rfl) ?_
          refine lv_iload_n hx hb dX1_chained_97 rfl (lv_at hl 5 rfl) ?_
          refine lv_iload_n hx hb dX1_chained_98 rfl (lv_at hl 6 rfl) ?_
          refine wk_VE (b := h0) (As := [.int (nI at0), .int (nI 1)]) (rest := []) (wc := [(h0, .inr (1, [.int th, .ref a1, .int by0, .int rd, .ref a4, .ref a5, .ref a6, .ref a7, .int zz, .ref a9, .ref a10, .ref a11, .ref a12])), (a5, .inl (cI, 132, .inl Rn)), (a7, .inl (cI, 256, .inl f)), (a9, .inl (cI, 128, .inl TB)), (a10, .inl (cI, 4, .inl b)), (a11, .inl (cI, 4, .inl (st4 d 0 (ld4 f at0))))]) (wr := [(a12, .inl (cI, 4, .inl z))]) (w1 := fun (u1 : Nat → Nat → Int32) => [(h0, .inr (1, [.int th, .ref a1, .int by0, .int rd, .ref a4, .ref a5, .ref a6, .ref a7, .int zz, .ref a9, .ref a10, .ref a11, .ref a12])), (a5, .inl (cI, 132, .inl Rn)), (a7, .inl (cI, 256, .inl (st4 f at0 (cDec (shf Rn) (ld4 f at0))))), (a9, .inl (cI, 128, .inl TB)), (a10, .inl (cI, 4, .inl (u1 0))), (a11, .inl (cI, 4, .inl (u1 1)))]) (w2 := fun (u1 : Nat → Nat → Int32) => [(h0, .inr (1, [.int th, .ref a1, .int by0, .int rd, .ref a4, .ref a5, .ref a6, .ref a7, .int zz, .ref a9, .ref a10, .ref a11, .ref a12])), (a5, .inl (cI, 132, .inl Rn)), (a7, .inl (cI, 256, .inl (st4 f at0 (cDec (shf Rn) (ld4 f at0))))), (a9, .inl (cI, 128, .inl TB)), (a10, .inl (cI, 4, .inl (u1 0))), (a11, .inl (cI, 4, .inl (u1 1))), (a12, .inl (cI, 4, .inl z))]) (ci := 1) (q0 := 0) ⟨hx, hb, hml, hown, hts⟩ (c_X1_alone1 l D cI _ h0 a1 a4 a5 a6 a7 a9 a10 a11 a12 th by0 rd zz at0 Rn f b (st4 d 0 (ld4 f at0)) h1) (cwV 2 hts gX1_chained_X1_alone rfl rfl rfl (by decide +kernel) ⟨Nat.le_of_ble_eq_true rfl, Nat.le_of_ble_eq_true rfl⟩) (fun _ _ _ _ h => h) (fun _ _ _ _ => trivial) hK hP hD hS hA rfl rfl [0, 1, 2, 3, 4, 5] [6] rfl (by decide) rfl (by decide) (by decide) [1, 2, 3, 4, 5, 6, 0] (fun _ => rfl) (by decide) rfl hl.1 rfl (Nat.le_of_ble_eq_true rfl) dX1_chained_99 ⟨Nat.zero_le _, Nat.zero_le _⟩ (fun u1 H locs hu1 hP hD hS => ?_)
          have hP : va_P D vwCl [(h0, .inr (1, [.int th, .ref a1, .int by0, .int rd, .ref a4, .ref a5, .ref a6, .ref a7, .int zz, .ref a9, .ref a10, .ref a11, .ref a12])), (a5, .inl (cI, 132, .inl Rn)), (a7, .inl (cI, 256, .inl (st4 f at0 (cDec (shf Rn) (ld4 f at0))))), (a9, .inl (cI, 128, .inl TB)), (a10, .inl (cI, 4, .inl (u1 0))), (a11, .inl (cI, 4, .inl (u1 1))), (a12, .inl (cI, 4, .inl z))] H := hP
          have hD : va_D A [(h0, .inr (1, [.int th, .ref a1, .int by0, .int rd, .ref a4, .ref a5, .ref a6, .ref a7, .int zz, .ref a9, .ref a10, .ref a11, .ref a12])), (a5, .inl (cI, 132, .inl Rn)), (a7, .inl (cI, 256, .inl (st4 f at0 (cDec (shf Rn) (ld4 f at0))))), (a9, .inl (cI, 128, .inl TB)), (a10, .inl (cI, 4, .inl (u1 0))), (a11, .inl (cI, 4, .inl (u1 1))), (a12, .inl (cI, 4, .inl z))] := hD
          refine lv_iconst (v := nI 0) hx hb dX1_chained_102 (by decide) ?_
          refine lv_istore (lv' := [(7, .int (nI 0)), (6, .int (f (at0 + 3))), (5, .int (f (at0 + 2))), (4, .int (f (at0 + 1))), (3, .int (f at0)), (0, .ref h0), (1, .int (nI at0)), (2, .int (nI 1))]) hx hb dX1_chained_103 hl (by decide) rfl (fun ls hl => ?_)
          have lp2 : ∀ (fu : Nat) (j : Nat), j ≤ 4 → 5 ≤ j + fu → ∀ (H : Heap) (locs : List Loc), va_P D vwCl [(h0, .inr (1, [.int th, .ref a1, .int by0, .int rd, .ref a4, .ref a5, .ref a6, .ref a7, .int zz, .ref a9, .ref a10, .ref a11, .ref a12])), (a5, .inl (cI, 132, .inl Rn)), (a7, .inl (cI, 256, .inl (chU (st4 f at0 (cDec (shf Rn) (ld4 f at0))) z (ld4 f at0) at0 j))), (a9, .inl (cI, 128, .inl TB)), (a10, .inl (cI, 4, .inl (u1 0))), (a11, .inl (cI, 4, .inl (u1 1))), (a12, .inl (cI, 4, .inl (cpq z (ld4 f at0) j)))] H → va_D A [(h0, .inr (1, [.int th, .ref a1, .int by0, .int rd, .ref a4, .ref a5, .ref a6, .ref a7, .int zz, .ref a9, .ref a10, .ref a11, .ref a12])), (a5, .inl (cI, 132, .inl Rn)), (a7, .inl (cI, 256, .inl (chU (st4 f at0 (cDec (shf Rn) (ld4 f at0))) z (ld4 f at0) at0 j))), (a9, .inl (cI, 128, .inl TB)), (a10, .inl (cI, 4, .inl (u1 0))), (a11, .inl (cI, 4, .inl (u1 1))), (a12, .inl (cI, 4, .inl (cpq z (ld4 f at0) j)))] → va_S A s.heap H locs → ∀ (ls : Array Slot), lv_has ls 8 [(0, .ref h0), (1, .int (nI at0)), (2, .int (nI 1)), (3, .int (f at0)), (4, .int (f (at0 + 1))), (5, .int (f (at0 + 2))), (6, .int (f (at0 + 3))), (7, .int (nI j))] → W p l e ((headSpec wsX1_chained ({ frames := 5, cells := 0, slots := 0, locals := 108 })).room) s m ([.ref h0, .int (nI at0), .int (nI 1)] : List Value).toArray below meth c H locs 0 0 (MQ below (va_Qv (fun _ : Nat → Nat → Int32 => True) (fun u => BW D [(cI, .int)] A [(h0, .inr (1, [.int th, .ref a1, .int by0, .int rd, .ref a4, .ref a5, .ref a6, .ref a7, .int zz, .ref a9, .ref a10, .ref a11, .ref a12])), (a5, .inl (cI, 132, .inl Rn)), (a7, .inl (cI, 256, .inl (st4 f at0 (x4 (cDec (shf Rn) (ld4 f at0)) (ld4 z 0))))), (a9, .inl (cI, 128, .inl TB)), (a10, .inl (cI, 4, .inl (u 0))), (a11, .inl (cI, 4, .inl (u 1))), (a12, .inl (cI, 4, .inl (st4 z 0 (ld4 f at0))))]) A) ([.ref h0, .int (nI at0), .int (nI 1)] : List Value).toArray s 0 0 (A)) (F0 m 105 ls []) := by
            intro fu
            induction fu with
              | zero => intro j hij hfj; exact absurd hfj (by omega)
              | succ fu ih =>
                intro j hij hfj H locs hP hD hS ls hl
                refine lv_iload hx hb dX1_chained_105 (lv_at hl 7 rfl) ?_
                refine lv_iconst (v := nI 4) hx hb dX1_chained_107 (by decide) ?_
                refine wk_geN (tgt := 215) hx hb (a := j) (b := 4) (by omega) (by decide) dX1_chained_108 (by decide) (fun c108 => ?_) (fun c108 => ?_)
                · obtain rfl : j = 4 := by omega
                  rw [chU_4, cpq_4, ld4_st4, st4_st4] at hP hD
                  exact W.vret hx hb hr (fun t ht hW => ⟨⟨(fun k9 => match k9 with | 0 => u1 0 | _ => u1 1), rfl, trivial, by rw [ht]; exact hP, va_K.moved hW.alike hK, hD⟩, hS.F ht⟩) hS.2.2 dX1_chained_215
                · refine lv_aload_n hx hb dX1_chained_111 rfl (lv_at hl 0 rfl) ?_
                  refine va_get (D := D) (ci := 1) (v := .ref a7) (C := RX1) (T := TX1) (N := 13) hx hb hts hinX1 hown hK hP 0 rfl rfl 7 (by decide) (hts (.fieldLink RX1 22 "SlicedCipherModel" "tape" "[I") (by decide +kernel)) (fun _ h9 => h9) rfl dX1_chained_112 ?_
                  refine lv_iload_n hx hb dX1_chained_115 rfl (lv_at hl 1 rfl) ?_
                  refine lv_iload hx hb dX1_chained_116 (lv_at hl 7 rfl) ?_
                  refine wk_iaddN hx hb (a := at0) (b := j) dX1_chained_118 ?_
                  refine lv_iload_n hx hb dX1_chained_119 rfl (lv_at hl 2 rfl) ?_
                  refine wk_eq0N (tgt := 143) hx hb (a := 1) (by decide) dX1_chained_120 (by decide) (fun c120 => absurd c120 (by decide)) (fun c120 => ?_)
                  refine lv_aload_n hx hb dX1_chained_123 rfl (lv_at hl 0 rfl) ?_
                  refine va_get (D := D) (ci := 1) (v := .ref a7) (C := RX1) (T := TX1) (N := 13) hx hb hts hinX1 hown hK hP 0 rfl rfl 7 (by decide) (hts (.fieldLink RX1 22 "SlicedCipherModel" "tape" "[I") (by decide +kernel)) (fun _ h9 => h9) rfl dX1_chained_124 ?_
                  refine lv_iload_n hx hb dX1_chained_127 rfl (lv_at hl 1 rfl) ?_
                  refine lv_iload hx hb dX1_chained_128 (lv_at hl 7 rfl) ?_
                  refine wk_iaddN hx hb (a := at0) (b := j) dX1_chained_130 ?_
                  refine wk_iald hx hb hK hP 2 0 rfl rfl (k := at0 + j) (by omega) (by decide) dX1_chained_131 ?_
                  refine lv_aload_n hx hb dX1_chained_132 rfl (lv_at hl 0 rfl) ?_
                  refine va_get (D := D) (ci := 1) (v := .ref a12) (C := RX1) (T := TX1) (N := 13) hx hb hts hinX1 hown hK hP 0 rfl rfl 12 (by decide) (hts (.fieldLink RX1 34 "SlicedCipherModel" "last" "[I") (by decide +kernel)) (fun _ h9 => h9) rfl dX1_chained_133 ?_
                  refine lv_iload hx hb dX1_chained_136 (lv_at hl 7 rfl) ?_
                  refine wk_iald hx hb hK hP 6 0 rfl rfl (k := j) (by omega) (by decide) dX1_chained_138 ?_
                  refine lv_ixor hx hb dX1_chained_139 ?_
                  refine lv_goto (tgt := 152) hx hb dX1_chained_140 (by decide) ?_
                  refine wk_iast hx hb hK hP hD hS 2 0 rfl rfl (k := at0 + j) (x := ((chU (st4 f at0 (cDec (shf Rn) (ld4 f at0))) z (ld4 f at0) at0 j) (at0 + j)) ^^^ ((cpq z (ld4 f at0) j) j)) (by omega) (by decide) dX1_chained_152 (fun H locs hP hD hS => ?_)
                  have hP : va_P D vwCl [(h0, .inr (1, [.int th, .ref a1, .int by0, .int rd, .ref a4, .ref a5, .ref a6, .ref a7, .int zz, .ref a9, .ref a10, .ref a11, .ref a12])), (a5, .inl (cI, 132, .inl Rn)), (a7, .inl (cI, 256, .inl (upd (chU (st4 f at0 (cDec (shf Rn) (ld4 f at0))) z (ld4 f at0) at0 j) (at0 + j) (((chU (st4 f at0 (cDec (shf Rn) (ld4 f at0))) z (ld4 f at0) at0 j) (at0 + j)) ^^^ ((cpq z (ld4 f at0) j) j))))), (a9, .inl (cI, 128, .inl TB)), (a10, .inl (cI, 4, .inl (u1 0))), (a11, .inl (cI, 4, .inl (u1 1))), (a12, .inl (cI, 4, .inl (cpq z (ld4 f at0) j)))] H := hP
                  have hD : va_D A [(h0, .inr (1, [.int th, .ref a1, .int by0, .int rd, .ref a4, .ref a5, .ref a6, .ref a7, .int zz, .ref a9, .ref a10, .ref a11, .ref a12])), (a5, .inl (cI, 132, .inl Rn)), (a7, .inl (cI, 256, .inl (upd (chU (st4 f at0 (cDec (shf Rn) (ld4 f at0))) z (ld4 f at0) at0 j) (at0 + j) (((chU (st4 f at0 (cDec (shf Rn) (ld4 f at0))) z (ld4 f at0) at0 j) (at0 + j)) ^^^ ((cpq z (ld4 f at0) j) j))))), (a9, .inl (cI, 128, .inl TB)), (a10, .inl (cI, 4, .inl (u1 0))), (a11, .inl (cI, 4, .inl (u1 1))), (a12, .inl (cI, 4, .inl (cpq z (ld4 f at0) j)))] := hD
                  refine lv_aload_n hx hb dX1_chained_153 rfl (lv_at hl 0 rfl) ?_
                  refine va_get (D := D) (ci := 1) (v := .ref a12) (C := RX1) (T := TX1) (N := 13) hx hb hts hinX1 hown hK hP 0 rfl rfl 12 (by decide) (hts (.fieldLink RX1 34 "SlicedCipherModel" "last" "[I") (by decide +kernel)) (fun _ h9 => h9) rfl dX1_chained_154 ?_
                  refine lv_iload hx hb dX1_chained_157 (lv_at hl 7 rfl) ?_
                  refine lv_iload_n hx hb dX1_chained_159 rfl (lv_at hl 2 rfl) ?_
                  refine wk_ne0N (tgt := 175) hx hb (a := 1) (by decide) dX1_chained_160 (by decide) (fun c160 => ?_) (fun c160 => absurd c160 (by decide))
                  refine lv_iload hx hb dX1_chained_175 (lv_at hl 7 rfl) ?_
                  refine wk_ne0N (tgt := 184) hx hb (a := j) (by omega) dX1_chained_177 (by decide) (fun c177 => ?_) (fun c177 => ?_)
                  · refine lv_iload hx hb dX1_chained_184 (lv_at hl 7 rfl) ?_
                    refine lv_iconst (v := nI 1) hx hb dX1_chained_186 (by decide) ?_
                    refine wk_neN (tgt := 195) hx hb (a := j) (b := 1) (by omega) (by decide) dX1_chained_187 (by decide) (fun c187 => ?_) (fun c187 => ?_)
                    · refine lv_iload hx hb dX1_chained_195 (lv_at hl 7 rfl) ?_
                      refine lv_iconst (v := nI 2) hx hb dX1_chained_197 (by decide) ?_
                      refine wk_neN (tgt := 206) hx hb (a := j) (b := 2) (by omega) (by decide) dX1_chained_198 (by decide) (fun c198 => ?_) (fun c198 => ?_)
                      · obtain rfl : j = 3 := by omega
                        refine lv_iload hx hb dX1_chained_206 (lv_at hl 6 rfl) ?_
                        refine wk_iast hx hb hK hP hD hS 6 0 rfl rfl (k := 3) (x := f (at0 + 3)) (by omega) (by decide) dX1_chained_208 (fun H locs hP hD hS => ?_)
                        have hP : va_P D vwCl [(h0, .inr (1, [.int th, .ref a1, .int by0, .int rd, .ref a4, .ref a5, .ref a6, .ref a7, .int zz, .ref a9, .ref a10, .ref a11, .ref a12])), (a5, .inl (cI, 132, .inl Rn)), (a7, .inl (cI, 256, .inl (upd (chU (st4 f at0 (cDec (shf Rn) (ld4 f at0))) z (ld4 f at0) at0 3) (at0 + 3) (((chU (st4 f at0 (cDec (shf Rn) (ld4 f at0))) z (ld4 f at0) at0 3) (at0 + 3)) ^^^ ((cpq z (ld4 f at0) 3) 3))))), (a9, .inl (cI, 128, .inl TB)), (a10, .inl (cI, 4, .inl (u1 0))), (a11, .inl (cI, 4, .inl (u1 1))), (a12, .inl (cI, 4, .inl (upd (cpq z (ld4 f at0) 3) 3 (f (at0 + 3)))))] H := hP
                        have hD : va_D A [(h0, .inr (1, [.int th, .ref a1, .int by0, .int rd, .ref a4, .ref a5, .ref a6, .ref a7, .int zz, .ref a9, .ref a10, .ref a11, .ref a12])), (a5, .inl (cI, 132, .inl Rn)), (a7, .inl (cI, 256, .inl (upd (chU (st4 f at0 (cDec (shf Rn) (ld4 f at0))) z (ld4 f at0) at0 3) (at0 + 3) (((chU (st4 f at0 (cDec (shf Rn) (ld4 f at0))) z (ld4 f at0) at0 3) (at0 + 3)) ^^^ ((cpq z (ld4 f at0) 3) 3))))), (a9, .inl (cI, 128, .inl TB)), (a10, .inl (cI, 4, .inl (u1 0))), (a11, .inl (cI, 4, .inl (u1 1))), (a12, .inl (cI, 4, .inl (upd (cpq z (ld4 f at0) 3) 3 (f (at0 + 3)))))] := hD
                        refine lv_iinc (v := nI (3 + 1)) (lv' := [(7, .int (nI (3 + 1))), (0, .ref h0), (1, .int (nI at0)), (2, .int (nI 1)), (3, .int (f at0)), (4, .int (f (at0 + 1))), (5, .int (f (at0 + 2))), (6, .int (f (at0 + 3)))]) hx hb dX1_chained_209 hl (k := 7) rfl (wk_inc 3 (by decide)) (by decide) rfl (fun ls hl => ?_)
                        refine lv_goto (tgt := 105) hx hb dX1_chained_212 (by decide) ?_
                        exact ih (3 + 1) (by omega) (by omega) _ _ hP hD hS ls (lv_sub hl [1, 2, 3, 4, 5, 6, 7, 0] rfl)
                      · obtain rfl : j = 2 := by omega
                        refine lv_iload hx hb dX1_chained_201 (lv_at hl 5 rfl) ?_
                        refine lv_goto (tgt := 208) hx hb dX1_chained_203 (by decide) ?_
                        refine wk_iast hx hb hK hP hD hS 6 0 rfl rfl (k := 2) (x := f (at0 + 2)) (by omega) (by decide) dX1_chained_208 (fun H locs hP hD hS => ?_)
                        have hP : va_P D vwCl [(h0, .inr (1, [.int th, .ref a1, .int by0, .int rd, .ref a4, .ref a5, .ref a6, .ref a7, .int zz, .ref a9, .ref a10, .ref a11, .ref a12])), (a5, .inl (cI, 132, .inl Rn)), (a7, .inl (cI, 256, .inl (upd (chU (st4 f at0 (cDec (shf Rn) (ld4 f at0))) z (ld4 f at0) at0 2) (at0 + 2) (((chU (st4 f at0 (cDec (shf Rn) (ld4 f at0))) z (ld4 f at0) at0 2) (at0 + 2)) ^^^ ((cpq z (ld4 f at0) 2) 2))))), (a9, .inl (cI, 128, .inl TB)), (a10, .inl (cI, 4, .inl (u1 0))), (a11, .inl (cI, 4, .inl (u1 1))), (a12, .inl (cI, 4, .inl (upd (cpq z (ld4 f at0) 2) 2 (f (at0 + 2)))))] H := hP
                        have hD : va_D A [(h0, .inr (1, [.int th, .ref a1, .int by0, .int rd, .ref a4, .ref a5, .ref a6, .ref a7, .int zz, .ref a9, .ref a10, .ref a11, .ref a12])), (a5, .inl (cI, 132, .inl Rn)), (a7, .inl (cI, 256, .inl (upd (chU (st4 f at0 (cDec (shf Rn) (ld4 f at0))) z (ld4 f at0) at0 2) (at0 + 2) (((chU (st4 f at0 (cDec (shf Rn) (ld4 f at0))) z (ld4 f at0) at0 2) (at0 + 2)) ^^^ ((cpq z (ld4 f at0) 2) 2))))), (a9, .inl (cI, 128, .inl TB)), (a10, .inl (cI, 4, .inl (u1 0))), (a11, .inl (cI, 4, .inl (u1 1))), (a12, .inl (cI, 4, .inl (upd (cpq z (ld4 f at0) 2) 2 (f (at0 + 2)))))] := hD
                        refine lv_iinc (v := nI (2 + 1)) (lv' := [(7, .int (nI (2 + 1))), (0, .ref h0), (1, .int (nI at0)), (2, .int (nI 1)), (3, .int (f at0)), (4, .int (f (at0 + 1))), (5, .int (f (at0 + 2))), (6, .int (f (at0 + 3)))]) hx hb dX1_chained_209 hl (k := 7) rfl (wk_inc 2 (by decide)) (by decide) rfl (fun ls hl => ?_)
                        refine lv_goto (tgt := 105) hx hb dX1_chained_212 (by decide) ?_
                        exact ih (2 + 1) (by omega) (by omega) _ _ hP hD hS ls (lv_sub hl [1, 2, 3, 4, 5, 6, 7, 0] rfl)
                    · obtain rfl : j = 1 := by omega
                      refine lv_iload hx hb dX1_chained_190 (lv_at hl 4 rfl) ?_
                      refine lv_goto (tgt := 208) hx hb dX1_chained_192 (by decide) ?_
                      refine wk_iast hx hb hK hP hD hS 6 0 rfl rfl (k := 1) (x := f (at0 + 1)) (by omega) (by decide) dX1_chained_208 (fun H locs hP hD hS => ?_)
                      have hP : va_P D vwCl [(h0, .inr (1, [.int th, .ref a1, .int by0, .int rd, .ref a4, .ref a5, .ref a6, .ref a7, .int zz, .ref a9, .ref a10, .ref a11, .ref a12])), (a5, .inl (cI, 132, .inl Rn)), (a7, .inl (cI, 256, .inl (upd (chU (st4 f at0 (cDec (shf Rn) (ld4 f at0))) z (ld4 f at0) at0 1) (at0 + 1) (((chU (st4 f at0 (cDec (shf Rn) (ld4 f at0))) z (ld4 f at0) at0 1) (at0 + 1)) ^^^ ((cpq z (ld4 f at0) 1) 1))))), (a9, .inl (cI, 128, .inl TB)), (a10, .inl (cI, 4, .inl (u1 0))), (a11, .inl (cI, 4, .inl (u1 1))), (a12, .inl (cI, 4, .inl (upd (cpq z (ld4 f at0) 1) 1 (f (at0 + 1)))))] H := hP
                      have hD : va_D A [(h0, .inr (1, [.int th, .ref a1, .int by0, .int rd, .ref a4, .ref a5, .ref a6, .ref a7, .int zz, .ref a9, .ref a10, .ref a11, .ref a12])), (a5, .inl (cI, 132, .inl Rn)), (a7, .inl (cI, 256, .inl (upd (chU (st4 f at0 (cDec (shf Rn) (ld4 f at0))) z (ld4 f at0) at0 1) (at0 + 1) (((chU (st4 f at0 (cDec (shf Rn) (ld4 f at0))) z (ld4 f at0) at0 1) (at0 + 1)) ^^^ ((cpq z (ld4 f at0) 1) 1))))), (a9, .inl (cI, 128, .inl TB)), (a10, .inl (cI, 4, .inl (u1 0))), (a11, .inl (cI, 4, .inl (u1 1))), (a12, .inl (cI, 4, .inl (upd (cpq z (ld4 f at0) 1) 1 (f (at0 + 1)))))] := hD
                      refine lv_iinc (v := nI (1 + 1)) (lv' := [(7, .int (nI (1 + 1))), (0, .ref h0), (1, .int (nI at0)), (2, .int (nI 1)), (3, .int (f at0)), (4, .int (f (at0 + 1))), (5, .int (f (at0 + 2))), (6, .int (f (at0 + 3)))]) hx hb dX1_chained_209 hl (k := 7) rfl (wk_inc 1 (by decide)) (by decide) rfl (fun ls hl => ?_)
                      refine lv_goto (tgt := 105) hx hb dX1_chained_212 (by decide) ?_
                      exact ih (1 + 1) (by omega) (by omega) _ _ hP hD hS ls (lv_sub hl [1, 2, 3, 4, 5, 6, 7, 0] rfl)
                  · obtain rfl : j = 0 := by omega
                    refine lv_iload_n hx hb dX1_chained_180 rfl (lv_at hl 3 rfl) ?_
                    refine lv_goto (tgt := 208) hx hb dX1_chained_181 (by decide) ?_
                    refine wk_iast hx hb hK hP hD hS 6 0 rfl rfl (k := 0) (x := f at0) (by omega) (by decide) dX1_chained_208 (fun H locs hP hD hS => ?_)
                    have hP : va_P D vwCl [(h0, .inr (1, [.int th, .ref a1, .int by0, .int rd, .ref a4, .ref a5, .ref a6, .ref a7, .int zz, .ref a9, .ref a10, .ref a11, .ref a12])), (a5, .inl (cI, 132, .inl Rn)), (a7, .inl (cI, 256, .inl (upd (chU (st4 f at0 (cDec (shf Rn) (ld4 f at0))) z (ld4 f at0) at0 0) (at0 + 0) (((chU (st4 f at0 (cDec (shf Rn) (ld4 f at0))) z (ld4 f at0) at0 0) (at0 + 0)) ^^^ ((cpq z (ld4 f at0) 0) 0))))), (a9, .inl (cI, 128, .inl TB)), (a10, .inl (cI, 4, .inl (u1 0))), (a11, .inl (cI, 4, .inl (u1 1))), (a12, .inl (cI, 4, .inl (upd (cpq z (ld4 f at0) 0) 0 (f at0))))] H := hP
                    have hD : va_D A [(h0, .inr (1, [.int th, .ref a1, .int by0, .int rd, .ref a4, .ref a5, .ref a6, .ref a7, .int zz, .ref a9, .ref a10, .ref a11, .ref a12])), (a5, .inl (cI, 132, .inl Rn)), (a7, .inl (cI, 256, .inl (upd (chU (st4 f at0 (cDec (shf Rn) (ld4 f at0))) z (ld4 f at0) at0 0) (at0 + 0) (((chU (st4 f at0 (cDec (shf Rn) (ld4 f at0))) z (ld4 f at0) at0 0) (at0 + 0)) ^^^ ((cpq z (ld4 f at0) 0) 0))))), (a9, .inl (cI, 128, .inl TB)), (a10, .inl (cI, 4, .inl (u1 0))), (a11, .inl (cI, 4, .inl (u1 1))), (a12, .inl (cI, 4, .inl (upd (cpq z (ld4 f at0) 0) 0 (f at0))))] := hD
                    refine lv_iinc (v := nI (0 + 1)) (lv' := [(7, .int (nI (0 + 1))), (0, .ref h0), (1, .int (nI at0)), (2, .int (nI 1)), (3, .int (f at0)), (4, .int (f (at0 + 1))), (5, .int (f (at0 + 2))), (6, .int (f (at0 + 3)))]) hx hb dX1_chained_209 hl (k := 7) rfl (wk_inc 0 (by decide)) (by decide) rfl (fun ls hl => ?_)
                    refine lv_goto (tgt := 105) hx hb dX1_chained_212 (by decide) ?_
                    exact ih (0 + 1) (by omega) (by omega) _ _ hP hD hS ls (lv_sub hl [1, 2, 3, 4, 5, 6, 7, 0] rfl)
          exact lp2 5 0 (by omega) (by omega) _ _ hP hD hS ls (lv_sub hl [5, 6, 7, 4, 3, 2, 1, 0] rfl)
        · refine lv_aload_n hx hb dX1_chained_7 rfl (lv_at hl 0 rfl) ?_
          refine va_get (D := D) (ci := 1) (v := .ref a11) (C := RX1) (T := TX1) (N := 13) hx hb hts hinX1 hown hK hP 0 rfl rfl 11 (by decide) (hts (.fieldLink RX1 31 "SlicedCipherModel" "made" "[I") (by decide +kernel)) (fun _ h9 => h9) rfl dX1_chained_8 ?_
          refine lv_iload_n hx hb dX1_chained_11 rfl (lv_at hl 3 rfl) ?_
          refine lv_aload_n hx hb dX1_chained_12 rfl (lv_at hl 0 rfl) ?_
          refine va_get (D := D) (ci := 1) (v := .ref a7) (C := RX1) (T := TX1) (N := 13) hx hb hts hinX1 hown hK hP 0 rfl rfl 7 (by decide) (hts (.fieldLink RX1 22 "SlicedCipherModel" "tape" "[I") (by decide +kernel)) (fun _ h9 => h9) rfl dX1_chained_13 ?_
          refine lv_iload_n hx hb dX1_chained_16 rfl (lv_at hl 1 rfl) ?_
          refine lv_iload_n hx hb dX1_chained_17 rfl (lv_at hl 3 rfl) ?_
          refine wk_iaddN hx hb (a := at0) (b := j) dX1_chained_18 ?_
          refine wk_iald hx hb hK hP 2 0 rfl rfl (k := at0 + j) (by omega) (by decide) dX1_chained_19 ?_
          refine wk_iast hx hb hK hP hD hS 5 0 rfl rfl (k := j) (x := f (at0 + j)) (by omega) (by decide) dX1_chained_20 (fun H locs hP hD hS => ?_)
          have hP : va_P D vwCl [(h0, .inr (1, [.int th, .ref a1, .int by0, .int rd, .ref a4, .ref a5, .ref a6, .ref a7, .int zz, .ref a9, .ref a10, .ref a11, .ref a12])), (a5, .inl (cI, 132, .inl Rn)), (a7, .inl (cI, 256, .inl f)), (a9, .inl (cI, 128, .inl TB)), (a10, .inl (cI, 4, .inl b)), (a11, .inl (cI, 4, .inl (upd (cpI d f at0 j) j (f (at0 + j))))), (a12, .inl (cI, 4, .inl z))] H := hP
          have hD : va_D A [(h0, .inr (1, [.int th, .ref a1, .int by0, .int rd, .ref a4, .ref a5, .ref a6, .ref a7, .int zz, .ref a9, .ref a10, .ref a11, .ref a12])), (a5, .inl (cI, 132, .inl Rn)), (a7, .inl (cI, 256, .inl f)), (a9, .inl (cI, 128, .inl TB)), (a10, .inl (cI, 4, .inl b)), (a11, .inl (cI, 4, .inl (upd (cpI d f at0 j) j (f (at0 + j))))), (a12, .inl (cI, 4, .inl z))] := hD
          refine lv_aload_n hx hb dX1_chained_21 rfl (lv_at hl 0 rfl) ?_
          refine va_get (D := D) (ci := 1) (v := .ref a7) (C := RX1) (T := TX1) (N := 13) hx hb hts hinX1 hown hK hP 0 rfl rfl 7 (by decide) (hts (.fieldLink RX1 22 "SlicedCipherModel" "tape" "[I") (by decide +kernel)) (fun _ h9 => h9) rfl dX1_chained_22 ?_
          refine lv_iload_n hx hb dX1_chained_25 rfl (lv_at hl 1 rfl) ?_
          refine lv_iload_n hx hb dX1_chained_26 rfl (lv_at hl 3 rfl) ?_
          refine wk_iaddN hx hb (a := at0) (b := j) dX1_chained_27 ?_
          refine lv_iload_n hx hb dX1_chained_28 rfl (lv_at hl 2 rfl) ?_
          refine wk_eq0N (tgt := 43) hx hb (a := 1) (by decide) dX1_chained_29 (by decide) (fun c29 => absurd c29 (by decide)) (fun c29 => ?_)
          refine lv_aload_n hx hb dX1_chained_32 rfl (lv_at hl 0 rfl) ?_
          refine va_get (D := D) (ci := 1) (v := .ref a7) (C := RX1) (T := TX1) (N := 13) hx hb hts hinX1 hown hK hP 0 rfl rfl 7 (by decide) (hts (.fieldLink RX1 22 "SlicedCipherModel" "tape" "[I") (by decide +kernel)) (fun _ h9 => h9) rfl dX1_chained_33 ?_
          refine lv_iload_n hx hb dX1_chained_36 rfl (lv_at hl 1 rfl) ?_
          refine lv_iload_n hx hb dX1_chained_37 rfl (lv_at hl 3 rfl) ?_
          refine wk_iaddN hx hb (a := at0) (b := j) dX1_chained_38 ?_
          refine wk_iald hx hb hK hP 2 0 rfl rfl (k := at0 + j) (by omega) (by decide) dX1_chained_39 ?_
          refine lv_goto (tgt := 58) hx hb dX1_chained_40 (by decide) ?_
          refine wk_iast hx hb hK hP hD hS 2 0 rfl rfl (k := at0 + j) (x := f (at0 + j)) (by omega) (by decide) dX1_chained_58 (fun H locs hP hD hS => ?_)
          have hP : va_P D vwCl [(h0, .inr (1, [.int th, .ref a1, .int by0, .int rd, .ref a4, .ref a5, .ref a6, .ref a7, .int zz, .ref a9, .ref a10, .ref a11, .ref a12])), (a5, .inl (cI, 132, .inl Rn)), (a7, .inl (cI, 256, .inl (upd f (at0 + j) (f (at0 + j))))), (a9, .inl (cI, 128, .inl TB)), (a10, .inl (cI, 4, .inl b)), (a11, .inl (cI, 4, .inl (upd (cpI d f at0 j) j (f (at0 + j))))), (a12, .inl (cI, 4, .inl z))] H := hP
          have hD : va_D A [(h0, .inr (1, [.int th, .ref a1, .int by0, .int rd, .ref a4, .ref a5, .ref a6, .ref a7, .int zz, .ref a9, .ref a10, .ref a11, .ref a12])), (a5, .inl (cI, 132, .inl Rn)), (a7, .inl (cI, 256, .inl (upd f (at0 + j) (f (at0 + j))))), (a9, .inl (cI, 128, .inl TB)), (a10, .inl (cI, 4, .inl b)), (a11, .inl (cI, 4, .inl (upd (cpI d f at0 j) j (f (at0 + j))))), (a12, .inl (cI, 4, .inl z))] := hD
          rw [upd_id] at hP hD
          have hP : va_P D vwCl [(h0, .inr (1, [.int th, .ref a1, .int by0, .int rd, .ref a4, .ref a5, .ref a6, .ref a7, .int zz, .ref a9, .ref a10, .ref a11, .ref a12])), (a5, .inl (cI, 132, .inl Rn)), (a7, .inl (cI, 256, .inl f)), (a9, .inl (cI, 128, .inl TB)), (a10, .inl (cI, 4, .inl b)), (a11, .inl (cI, 4, .inl (upd (cpI d f at0 j) j (f (at0 + j))))), (a12, .inl (cI, 4, .inl z))] H := hP
          have hD : va_D A [(h0, .inr (1, [.int th, .ref a1, .int by0, .int rd, .ref a4, .ref a5, .ref a6, .ref a7, .int zz, .ref a9, .ref a10, .ref a11, .ref a12])), (a5, .inl (cI, 132, .inl Rn)), (a7, .inl (cI, 256, .inl f)), (a9, .inl (cI, 128, .inl TB)), (a10, .inl (cI, 4, .inl b)), (a11, .inl (cI, 4, .inl (upd (cpI d f at0 j) j (f (at0 + j))))), (a12, .inl (cI, 4, .inl z))] := hD
          refine lv_iinc (v := nI (j + 1)) (lv' := [(3, .int (nI (j + 1))), (0, .ref h0), (1, .int (nI at0)), (2, .int (nI 1))]) hx hb dX1_chained_59 hl (k := 3) rfl (wk_inc j (by decide)) (by decide) rfl (fun ls hl => ?_)
          refine lv_goto (tgt := 2) hx hb dX1_chained_62 (by decide) ?_
          exact ih (j + 1) (by omega) (by omega) _ _ hP hD hS ls (lv_sub hl [1, 2, 3, 0] rfl)
  refine lv_iconst (v := nI 0) hx hb dX1_chained_0 (by decide) ?_
  refine lv_istore_n (lv' := [(3, .int (nI 0)), (0, .ref h0), (1, .int (nI at0)), (2, .int (nI 1))]) hx hb dX1_chained_1 rfl hl (by decide) rfl (fun ls hl => ?_)
  exact lp1 5 0 (by omega) (by omega) _ _ hP hD hS ls (lv_sub hl [1, 2, 3, 0] rfl)
set_option maxRecDepth 100000 in
theorem in_X1_counted : ∀ w ∈ wsX10, w ∈ wsX1_counted := by decide +kernel
set_option maxHeartbeats 4000000 in
set_option maxRecDepth 100000 in
theorem c_X1_counted (l : Launch) (D : va_G) (cI : ClassId) (sz : Nat) (h0 a1 a4 a5 a6 a7 a9 a10 a11 a12 : Nat) (th by0 rd zz : Int32) (at0 : Nat) (Rn f b d z : Nat → Int32) (h1 : at0 + 4 ≤ 256) : Met l yX1_counted wsX1_counted ({ frames := 4, cells := 0, slots := 0, locals := 85 }) (va_Pc [.ref h0, .int (nI at0)] (fun U => PW D [(cI, .int)] [(h0, .inr (1, [.int th, .ref a1, .int by0, .int rd, .ref a4, .ref a5, .ref a6, .ref a7, .int zz, .ref a9, .ref a10, .ref a11, .ref a12])), (a5, .inl (cI, 132, .inl Rn)), (a7, .inl (cI, 256, .inl f)), (a9, .inl (cI, 128, .inl TB)), (a10, .inl (cI, 4, .inl b)), (a11, .inl (cI, 4, .inl d)), (a12, .inl (cI, 4, .inl z))] sz U ∧ True)) (va_Qv (fun _ : Nat → Nat → Int32 => True) (fun u => BW D [(cI, .int)] (va_A [(h0, .inr (1, [.int th, .ref a1, .int by0, .int rd, .ref a4, .ref a5, .ref a6, .ref a7, .int zz, .ref a9, .ref a10, .ref a11, .ref a12])), (a5, .inl (cI, 132, .inl Rn)), (a7, .inl (cI, 256, .inl f)), (a9, .inl (cI, 128, .inl TB)), (a10, .inl (cI, 4, .inl b)), (a11, .inl (cI, 4, .inl d)), (a12, .inl (cI, 4, .inl z))] sz) [(h0, .inr (1, [.int th, .ref a1, .int by0, .int rd, .ref a4, .ref a5, .ref a6, .ref a7, .int zz, .ref a9, .ref a10, .ref a11, .ref a12])), (a5, .inl (cI, 132, .inl Rn)), (a7, .inl (cI, 256, .inl (st4 f at0 (x4 (ld4 f at0) (cEnc (shf Rn) (ld4 z 0)))))), (a9, .inl (cI, 128, .inl TB)), (a10, .inl (cI, 4, .inl (u 0))), (a11, .inl (cI, 4, .inl (u 1))), (a12, .inl (cI, 4, .inl (cInc z)))]) (va_A [(h0, .inr (1, [.int th, .ref a1, .int by0, .int rd, .ref a4, .ref a5, .ref a6, .ref a7, .int zz, .ref a9, .ref a10, .ref a11, .ref a12])), (a5, .inl (cI, 132, .inl Rn)), (a7, .inl (cI, 256, .inl f)), (a9, .inl (cI, 128, .inl TB)), (a10, .inl (cI, 4, .inl b)), (a11, .inl (cI, 4, .inl d)), (a12, .inl (cI, 4, .inl z))] sz)) 0 0 (va_A [(h0, .inr (1, [.int th, .ref a1, .int by0, .int rd, .ref a4, .ref a5, .ref a6, .ref a7, .int zz, .ref a9, .ref a10, .ref a11, .ref a12])), (a5, .inl (cI, 132, .inl Rn)), (a7, .inl (cI, 256, .inl f)), (a9, .inl (cI, 128, .inl TB)), (a10, .inl (cI, 4, .inl b)), (a11, .inl (cI, 4, .inl d)), (a12, .inl (cI, 4, .inl z))] sz) := by
  refine Met.ofW (cc := cX1_counted) (maxL := 4) (ret := none) (by decide) rfl ?_
  intro p e s m args below meth c s₁ B hml hv
  obtain ⟨rfl, ⟨hsz, hP, hK, hD0⟩, -⟩ := hv
  have hx := B.exec
  have hb := B.bytes
  have hr := B.returns
  have hts := atoms_spec (ws := wsX1_counted) B.pre
  have hown : s.vm.findClass RX1 = some m.cls := findClass_of_methodNamed B.named
  have hlocks := B.notSynchronized
  subst hsz
  have hD := hD0.self (sz := s.heap.size)
  have hinX1 := in_X1_counted
  generalize hAe : va_A [(h0, .inr (1, [.int th, .ref a1, .int by0, .int rd, .ref a4, .ref a5, .ref a6, .ref a7, .int zz, .ref a9, .ref a10, .ref a11, .ref a12])), (a5, .inl (cI, 132, .inl Rn)), (a7, .inl (cI, 256, .inl f)), (a9, .inl (cI, 128, .inl TB)), (a10, .inl (cI, 4, .inl b)), (a11, .inl (cI, 4, .inl d)), (a12, .inl (cI, 4, .inl z))] s.heap.size = A at hD ⊢
  have hA : ∀ q : Nat, s.heap.size ≤ q → A q := fun q h => by rw [← hAe]; exact Or.inr h
  have hS : va_S A s.heap s.heap [] := va_S.rf
  have hl := lv_entry ([.ref h0, .int (nI at0)]) (n := 4) (Nat.le_of_ble_eq_true rfl)
  rw [lg_entry_eq]
  generalize (lg_sl ([.ref h0, .int (nI at0)]) ++ List.replicate (4 - (lg_sl ([.ref h0, .int (nI at0)])).length) Slot.unset).toArray = ls at hl ⊢
  have hl : lv_has ls 4 [(0, .ref h0), (1, .int (nI at0))] := hl
  have lp1 : ∀ (fu : Nat) (j : Nat), j ≤ 4 → 4 + 1 ≤ j + fu → ∀ (H : Heap) (locs : List Loc), va_P D vwCl [(h0, .inr (1, [.int th, .ref a1, .int by0, .int rd, .ref a4, .ref a5, .ref a6, .ref a7, .int zz, .ref a9, .ref a10, .ref a11, .ref a12])), (a5, .inl (cI, 132, .inl Rn)), (a7, .inl (cI, 256, .inl f)), (a9, .inl (cI, 128, .inl TB)), (a10, .inl (cI, 4, .inl (cpZ b z j))), (a11, .inl (cI, 4, .inl d)), (a12, .inl (cI, 4, .inl z))] H → va_D A [(h0, .inr (1, [.int th, .ref a1, .int by0, .int rd, .ref a4, .ref a5, .ref a6, .ref a7, .int zz, .ref a9, .ref a10, .ref a11, .ref a12])), (a5, .inl (cI, 132, .inl Rn)), (a7, .inl (cI, 256, .inl f)), (a9, .inl (cI, 128, .inl TB)), (a10, .inl (cI, 4, .inl (cpZ b z j))), (a11, .inl (cI, 4, .inl d)), (a12, .inl (cI, 4, .inl z))] → va_S A s.heap H locs → ∀ (ls : Array Slot), lv_has ls 4 [(0, .ref h0), (1, .int (nI at0)), (2, .int (nI j))] → W p l e ((headSpec wsX1_counted ({ frames := 4, cells := 0, slots := 0, locals := 85 })).room) s m ([.ref h0, .int (nI at0)] : List Value).toArray below meth c H locs 0 0 (MQ below (va_Qv (fun _ : Nat → Nat → Int32 => True) (fun u => BW D [(cI, .int)] A [(h0, .inr (1, [.int th, .ref a1, .int by0, .int rd, .ref a4, .ref a5, .ref a6, .ref a7, .int zz, .ref a9, .ref a10, .ref a11, .ref a12])), (a5, .inl (cI, 132, .inl Rn)), (a7, .inl (cI, 256, .inl (st4 f at0 (x4 (ld4 f at0) (cEnc (shf Rn) (ld4 z 0)))))), (a9, .inl (cI, 128, .inl TB)), (a10, .inl (cI, 4, .inl (u 0))), (a11, .inl (cI, 4, .inl (u 1))), (a12, .inl (cI, 4, .inl (cInc z)))]) A) ([.ref h0, .int (nI at0)] : List Value).toArray s 0 0 (A)) (F0 m 2 ls []) := by
    intro fu
    induction fu with
      | zero => intro j hij hfj; exact absurd hfj (by omega)
      | succ fu ih =>
        intro j hij hfj H locs hP hD hS ls hl
        refine lv_iload_n hx hb dX1_counted_2 rfl (lv_at hl 2 rfl) ?_
        refine lv_iconst (v := nI 4) hx hb dX1_counted_3 (by decide) ?_
        refine wk_geN (tgt := 25) hx hb (a := j) (b := 4) (by omega) (by decide) dX1_counted_4 (by decide) (fun c4 => ?_) (fun c4 => ?_)
        · obtain rfl : j = 4 := by omega
          rw [cpZ_4] at hP hD
          refine lv_aload_n hx hb dX1_counted_25 rfl (lv_at hl 0 rfl) ?_
          refine wk_VE (b := h0) (As := []) (rest := []) (wc := [(h0, .inr (1, [.int th, .ref a1, .int by0, .int rd, .ref a4, .ref a5, .ref a6, .ref a7, .int zz, .ref a9, .ref a10, .ref a11, .ref a12])), (a5, .inl (cI, 132, .inl Rn)), (a9, .inl (cI, 128, .inl TB)), (a10, .inl (cI, 4, .inl (st4 b 0 (ld4 z 0)))), (a11, .inl (cI, 4, .inl d))]) (wr := [(a7, .inl (cI, 256, .inl f)), (a12, .inl (cI, 4, .inl z))]) (w1 := fun (u1 : Nat → Nat → Int32) => [(h0, .inr (1, [.int th, .ref a1, .int by0, .int rd, .ref a4, .ref a5, .ref a6, .ref a7, .int zz, .ref a9, .ref a10, .ref a11, .ref a12])), (a5, .inl (cI, 132, .inl Rn)), (a9, .inl (cI, 128, .inl TB)), (a10, .inl (cI, 4, .inl (st4 (st4 b 0 (ld4 z 0)) 0 (cEnc (shf Rn) (ld4 (st4 b 0 (ld4 z 0)) 0))))), (a11, .inl (cI, 4, .inl (u1 0)))]) (w2 := fun (u1 : Nat → Nat → Int32) => [(h0, .inr (1, [.int th, .ref a1, .int by0, .int rd, .ref a4, .ref a5, .ref a6, .ref a7, .int zz, .ref a9, .ref a10, .ref a11, .ref a12])), (a5, .inl (cI, 132, .inl Rn)), (a7, .inl (cI, 256, .inl f)), (a9, .inl (cI, 128, .inl TB)), (a10, .inl (cI, 4, .inl (st4 (st4 b 0 (ld4 z 0)) 0 (cEnc (shf Rn) (ld4 (st4 b 0 (ld4 z 0)) 0))))), (a11, .inl (cI, 4, .inl (u1 0))), (a12, .inl (cI, 4, .inl z))]) (ci := 1) (q0 := 0) ⟨hx, hb, hml, hown, hts⟩ (c_X1_forth l D cI _ h0 a1 a4 a5 a6 a7 a9 a10 a11 a12 th by0 rd zz Rn (st4 b 0 (ld4 z 0)) d) (cwV 0 hts gX1_counted_X1_forth rfl rfl rfl (by decide +kernel) ⟨Nat.le_of_ble_eq_true rfl, Nat.le_of_ble_eq_true rfl⟩) (fun _ _ _ _ h => h) (fun _ _ _ _ => trivial) hK hP hD hS hA rfl rfl [0, 1, 3, 4, 5] [2, 6] rfl (by decide) rfl (by decide) (by decide) [2, 3, 0, 4, 5, 6, 1] (fun _ => rfl) (by decide) rfl hl.1 rfl (Nat.le_of_ble_eq_true rfl) dX1_counted_26 ⟨Nat.zero_le _, Nat.zero_le _⟩ (fun u1 H locs hu1 hP hD hS => ?_)
          have hP : va_P D vwCl [(h0, .inr (1, [.int th, .ref a1, .int by0, .int rd, .ref a4, .ref a5, .ref a6, .ref a7, .int zz, .ref a9, .ref a10, .ref a11, .ref a12])), (a5, .inl (cI, 132, .inl Rn)), (a7, .inl (cI, 256, .inl f)), (a9, .inl (cI, 128, .inl TB)), (a10, .inl (cI, 4, .inl (st4 (st4 b 0 (ld4 z 0)) 0 (cEnc (shf Rn) (ld4 (st4 b 0 (ld4 z 0)) 0))))), (a11, .inl (cI, 4, .inl (u1 0))), (a12, .inl (cI, 4, .inl z))] H := hP
          have hD : va_D A [(h0, .inr (1, [.int th, .ref a1, .int by0, .int rd, .ref a4, .ref a5, .ref a6, .ref a7, .int zz, .ref a9, .ref a10, .ref a11, .ref a12])), (a5, .inl (cI, 132, .inl Rn)), (a7, .inl (cI, 256, .inl f)), (a9, .inl (cI, 128, .inl TB)), (a10, .inl (cI, 4, .inl (st4 (st4 b 0 (ld4 z 0)) 0 (cEnc (shf Rn) (ld4 (st4 b 0 (ld4 z 0)) 0))))), (a11, .inl (cI, 4, .inl (u1 0))), (a12, .inl (cI, 4, .inl z))] := hD
          simp only [ld4_st4, st4_st4] at hP hD
          have hP : va_P D vwCl [(h0, .inr (1, [.int th, .ref a1, .int by0, .int rd, .ref a4, .ref a5, .ref a6, .ref a7, .int zz, .ref a9, .ref a10, .ref a11, .ref a12])), (a5, .inl (cI, 132, .inl Rn)), (a7, .inl (cI, 256, .inl f)), (a9, .inl (cI, 128, .inl TB)), (a10, .inl (cI, 4, .inl (st4 b 0 (cEnc (shf Rn) (ld4 z 0))))), (a11, .inl (cI, 4, .inl (u1 0))), (a12, .inl (cI, 4, .inl z))] H := hP
          have hD : va_D A [(h0, .inr (1, [.int th, .ref a1, .int by0, .int rd, .ref a4, .ref a5, .ref a6, .ref a7, .int zz, .ref a9, .ref a10, .ref a11, .ref a12])), (a5, .inl (cI, 132, .inl Rn)), (a7, .inl (cI, 256, .inl f)), (a9, .inl (cI, 128, .inl TB)), (a10, .inl (cI, 4, .inl (st4 b 0 (cEnc (shf Rn) (ld4 z 0))))), (a11, .inl (cI, 4, .inl (u1 0))), (a12, .inl (cI, 4, .inl z))] := hD
          refine lv_iconst (v := nI 0) hx hb dX1_counted_29 (by decide) ?_
          refine lv_istore_n (lv' := [(2, .int (nI 0)), (0, .ref h0), (1, .int (nI at0))]) hx hb dX1_counted_30 rfl hl (by decide) rfl (fun ls hl => ?_)
          have lp2 : ∀ (fu : Nat) (j : Nat), j ≤ 4 → 4 + 1 ≤ j + fu → ∀ (H : Heap) (locs : List Loc), va_P D vwCl [(h0, .inr (1, [.int th, .ref a1, .int by0, .int rd, .ref a4, .ref a5, .ref a6, .ref a7, .int zz, .ref a9, .ref a10, .ref a11, .ref a12])), (a5, .inl (cI, 132, .inl Rn)), (a7, .inl (cI, 256, .inl (chT f (st4 b 0 (cEnc (shf Rn) (ld4 z 0))) at0 j))), (a9, .inl (cI, 128, .inl TB)), (a10, .inl (cI, 4, .inl (st4 b 0 (cEnc (shf Rn) (ld4 z 0))))), (a11, .inl (cI, 4, .inl (u1 0))), (a12, .inl (cI, 4, .inl z))] H → va_D A [(h0, .inr (1, [.int th, .ref a1, .int by0, .int rd, .ref a4, .ref a5, .ref a6, .ref a7, .int zz, .ref a9, .ref a10, .ref a11, .ref a12])), (a5, .inl (cI, 132, .inl Rn)), (a7, .inl (cI, 256, .inl (chT f (st4 b 0 (cEnc (shf Rn) (ld4 z 0))) at0 j))), (a9, .inl (cI, 128, .inl TB)), (a10, .inl (cI, 4, .inl (st4 b 0 (cEnc (shf Rn) (ld4 z 0))))), (a11, .inl (cI, 4, .inl (u1 0))), (a12, .inl (cI, 4, .inl z))] → va_S A s.heap H locs → ∀ (ls : Array Slot), lv_has ls 4 [(0, .ref h0), (1, .int (nI at0)), (2, .int (nI j))] → W p l e ((headSpec wsX1_counted ({ frames := 4, cells := 0, slots := 0, locals := 85 })).room) s m ([.ref h0, .int (nI at0)] : List Value).toArray below meth c H locs 0 0 (MQ below (va_Qv (fun _ : Nat → Nat → Int32 => True) (fun u => BW D [(cI, .int)] A [(h0, .inr (1, [.int th, .ref a1, .int by0, .int rd, .ref a4, .ref a5, .ref a6, .ref a7, .int zz, .ref a9, .ref a10, .ref a11, .ref a12])), (a5, .inl (cI, 132, .inl Rn)), (a7, .inl (cI, 256, .inl (st4 f at0 (x4 (ld4 f at0) (cEnc (shf Rn) (ld4 z 0)))))), (a9, .inl (cI, 128, .inl TB)), (a10, .inl (cI, 4, .inl (u 0))), (a11, .inl (cI, 4, .inl (u 1))), (a12, .inl (cI, 4, .inl (cInc z)))]) A) ([.ref h0, .int (nI at0)] : List Value).toArray s 0 0 (A)) (F0 m 31 ls []) := by
            intro fu
            induction fu with
              | zero => intro j hij hfj; exact absurd hfj (by omega)
              | succ fu ih =>
                intro j hij hfj H locs hP hD hS ls hl
                refine lv_iload_n hx hb dX1_counted_31 rfl (lv_at hl 2 rfl) ?_
                refine lv_iconst (v := nI 4) hx hb dX1_counted_32 (by decide) ?_
                refine wk_geN (tgt := 65) hx hb (a := j) (b := 4) (by omega) (by decide) dX1_counted_33 (by decide) (fun c33 => ?_) (fun c33 => ?_)
                · obtain rfl : j = 4 := by omega
                  rw [chT_4, ld4_st4] at hP hD
                  refine lv_iconst (v := nI 1) hx hb dX1_counted_65 (by decide) ?_
                  refine lv_istore_n (lv' := [(2, .int (nI 1)), (0, .ref h0), (1, .int (nI at0))]) hx hb dX1_counted_66 rfl hl (by decide) rfl (fun ls hl => ?_)
                  refine lv_iconst (v := nI 0) hx hb dX1_counted_67 (by decide) ?_
                  refine lv_istore_n (lv' := [(3, .int (nI 0)), (2, .int (nI 1)), (0, .ref h0), (1, .int (nI at0))]) hx hb dX1_counted_68 rfl hl (by decide) rfl (fun ls hl => ?_)
                  have lp3 : ∀ (fu : Nat) (j cy : Nat) (C : Nat → Int32), j ≤ 4 → cy ≤ 1 → (cy = 1 → cIncF C (4 - j) j = cInc z) → (cy = 0 → C = cInc z) → 5 ≤ j + fu → ∀ (H : Heap) (locs : List Loc), va_P D vwCl [(h0, .inr (1, [.int th, .ref a1, .int by0, .int rd, .ref a4, .ref a5, .ref a6, .ref a7, .int zz, .ref a9, .ref a10, .ref a11, .ref a12])), (a5, .inl (cI, 132, .inl Rn)), (a7, .inl (cI, 256, .inl (st4 f at0 (x4 (ld4 f at0) (cEnc (shf Rn) (ld4 z 0)))))), (a9, .inl (cI, 128, .inl TB)), (a10, .inl (cI, 4, .inl (st4 b 0 (cEnc (shf Rn) (ld4 z 0))))), (a11, .inl (cI, 4, .inl (u1 0))), (a12, .inl (cI, 4, .inl C))] H → va_D A [(h0, .inr (1, [.int th, .ref a1, .int by0, .int rd, .ref a4, .ref a5, .ref a6, .ref a7, .int zz, .ref a9, .ref a10, .ref a11, .ref a12])), (a5, .inl (cI, 132, .inl Rn)), (a7, .inl (cI, 256, .inl (st4 f at0 (x4 (ld4 f at0) (cEnc (shf Rn) (ld4 z 0)))))), (a9, .inl (cI, 128, .inl TB)), (a10, .inl (cI, 4, .inl (st4 b 0 (cEnc (shf Rn) (ld4 z 0))))), (a11, .inl (cI, 4, .inl (u1 0))), (a12, .inl (cI, 4, .inl C))] → va_S A s.heap H locs → ∀ (ls : Array Slot), lv_has ls 4 [(0, .ref h0), (1, .int (nI at0)), (2, .int (nI cy)), (3, .int (nI j))] → W p l e ((headSpec wsX1_counted ({ frames := 4, cells := 0, slots := 0, locals := 85 })).room) s m ([.ref h0, .int (nI at0)] : List Value).toArray below meth c H locs 0 0 (MQ below (va_Qv (fun _ : Nat → Nat → Int32 => True) (fun u => BW D [(cI, .int)] A [(h0, .inr (1, [.int th, .ref a1, .int by0, .int rd, .ref a4, .ref a5, .ref a6, .ref a7, .int zz, .ref a9, .ref a10, .ref a11, .ref a12])), (a5, .inl (cI, 132, .inl Rn)), (a7, .inl (cI, 256, .inl (st4 f at0 (x4 (ld4 f at0) (cEnc (shf Rn) (ld4 z 0)))))), (a9, .inl (cI, 128, .inl TB)), (a10, .inl (cI, 4, .inl (u 0))), (a11, .inl (cI, 4, .inl (u 1))), (a12, .inl (cI, 4, .inl (cInc z)))]) A) ([.ref h0, .int (nI at0)] : List Value).toArray s 0 0 (A)) (F0 m 69 ls []) := by
                    intro fu
                    induction fu with
                      | zero => intro j cy C hij hcy h1c h0c hfj; exact absurd hfj (by omega)
                      | succ fu ih =>
                        intro j cy C hij hcy h1c h0c hfj H locs hP hD hS ls hl
                        refine lv_iload_n hx hb dX1_counted_69 rfl (lv_at hl 3 rfl) ?_
                        refine lv_iconst (v := nI 4) hx hb dX1_counted_70 (by decide) ?_
                        refine wk_geN (tgt := 126) hx hb (a := j) (b := 4) (by omega) (by decide) dX1_counted_71 (by decide) (fun c71 => ?_) (fun c71 => ?_)
                        · obtain rfl : j = 4 := by omega
                          have hC : C = cInc z := by rcases (show cy = 0 ∨ cy = 1 by omega) with h | h; exact h0c h; exact h1c h
                          rw [hC] at hP hD
                          exact W.vret hx hb hr (fun t ht hW => ⟨⟨(fun k9 => match k9 with | 0 => st4 b 0 (cEnc (shf Rn) (ld4 z 0)) | _ => u1 0), rfl, trivial, by rw [ht]; exact hP, va_K.moved hW.alike hK, hD⟩, hS.F ht⟩) hS.2.2 dX1_counted_126
                        · refine lv_aload_n hx hb dX1_counted_74 rfl (lv_at hl 0 rfl) ?_
                          refine va_get (D := D) (ci := 1) (v := .ref a12) (C := RX1) (T := TX1) (N := 13) hx hb hts hinX1 hown hK hP 0 rfl rfl 12 (by decide) (hts (.fieldLink RX1 34 "SlicedCipherModel" "last" "[I") (by decide +kernel)) (fun _ h9 => h9) rfl dX1_counted_75 ?_
                          refine lv_iload_n hx hb dX1_counted_78 rfl (lv_at hl 3 rfl) ?_
                          refine lv_iload_n hx hb dX1_counted_79 rfl (lv_at hl 2 rfl) ?_
                          refine wk_eq0N (tgt := 94) hx hb (a := cy) (by omega) dX1_counted_80 (by decide) (fun c80 => ?_) (fun c80 => ?_)
                          · refine lv_aload_n hx hb dX1_counted_94 rfl (lv_at hl 0 rfl) ?_
                            refine va_get (D := D) (ci := 1) (v := .ref a12) (C := RX1) (T := TX1) (N := 13) hx hb hts hinX1 hown hK hP 0 rfl rfl 12 (by decide) (hts (.fieldLink RX1 34 "SlicedCipherModel" "last" "[I") (by decide +kernel)) (fun _ h9 => h9) rfl dX1_counted_95 ?_
                            refine lv_iload_n hx hb dX1_counted_98 rfl (lv_at hl 3 rfl) ?_
                            refine wk_iald hx hb hK hP 6 0 rfl rfl (k := j) (by omega) (by decide) dX1_counted_99 ?_
                            refine wk_iast hx hb hK hP hD hS 6 0 rfl rfl (k := j) (x := C j) (by omega) (by decide) dX1_counted_100 (fun H locs hP hD hS => ?_)
                            have hP : va_P D vwCl [(h0, .inr (1, [.int th, .ref a1, .int by0, .int rd, .ref a4, .ref a5, .ref a6, .ref a7, .int zz, .ref a9, .ref a10, .ref a11, .ref a12])), (a5, .inl (cI, 132, .inl Rn)), (a7, .inl (cI, 256, .inl (st4 f at0 (x4 (ld4 f at0) (cEnc (shf Rn) (ld4 z 0)))))), (a9, .inl (cI, 128, .inl TB)), (a10, .inl (cI, 4, .inl (st4 b 0 (cEnc (shf Rn) (ld4 z 0))))), (a11, .inl (cI, 4, .inl (u1 0))), (a12, .inl (cI, 4, .inl (upd C j (C j))))] H := hP
                            have hD : va_D A [(h0, .inr (1, [.int th, .ref a1, .int by0, .int rd, .ref a4, .ref a5, .ref a6, .ref a7, .int zz, .ref a9, .ref a10, .ref a11, .ref a12])), (a5, .inl (cI, 132, .inl Rn)), (a7, .inl (cI, 256, .inl (st4 f at0 (x4 (ld4 f at0) (cEnc (shf Rn) (ld4 z 0)))))), (a9, .inl (cI, 128, .inl TB)), (a10, .inl (cI, 4, .inl (st4 b 0 (cEnc (shf Rn) (ld4 z 0))))), (a11, .inl (cI, 4, .inl (u1 0))), (a12, .inl (cI, 4, .inl (upd C j (C j))))] := hD
                            rw [upd_id] at hP hD
                            have hP : va_P D vwCl [(h0, .inr (1, [.int th, .ref a1, .int by0, .int rd, .ref a4, .ref a5, .ref a6, .ref a7, .int zz, .ref a9, .ref a10, .ref a11, .ref a12])), (a5, .inl (cI, 132, .inl Rn)), (a7, .inl (cI, 256, .inl (st4 f at0 (x4 (ld4 f at0) (cEnc (shf Rn) (ld4 z 0)))))), (a9, .inl (cI, 128, .inl TB)), (a10, .inl (cI, 4, .inl (st4 b 0 (cEnc (shf Rn) (ld4 z 0))))), (a11, .inl (cI, 4, .inl (u1 0))), (a12, .inl (cI, 4, .inl C))] H := hP
                            have hD : va_D A [(h0, .inr (1, [.int th, .ref a1, .int by0, .int rd, .ref a4, .ref a5, .ref a6, .ref a7, .int zz, .ref a9, .ref a10, .ref a11, .ref a12])), (a5, .inl (cI, 132, .inl Rn)), (a7, .inl (cI, 256, .inl (st4 f at0 (x4 (ld4 f at0) (cEnc (shf Rn) (ld4 z 0)))))), (a9, .inl (cI, 128, .inl TB)), (a10, .inl (cI, 4, .inl (st4 b 0 (cEnc (shf Rn) (ld4 z 0))))), (a11, .inl (cI, 4, .inl (u1 0))), (a12, .inl (cI, 4, .inl C))] := hD
                            refine lv_iload_n hx hb dX1_counted_101 rfl (lv_at hl 2 rfl) ?_
                            refine wk_eq0N (tgt := 118) hx hb (a := cy) (by omega) dX1_counted_102 (by decide) (fun c102 => ?_) (fun c102 => absurd c102 (fun h => h c80))
                            refine lv_iconst (v := nI 0) hx hb dX1_counted_118 (by decide) ?_
                            refine lv_istore_n (lv' := [(2, .int (nI 0)), (0, .ref h0), (1, .int (nI at0)), (3, .int (nI j))]) hx hb dX1_counted_119 rfl hl (by decide) rfl (fun ls hl => ?_)
                            refine lv_iinc (v := nI (j + 1)) (lv' := [(3, .int (nI (j + 1))), (2, .int (nI 0)), (0, .ref h0), (1, .int (nI at0))]) hx hb dX1_counted_120 hl (k := 3) rfl (wk_inc j (by decide)) (by decide) rfl (fun ls hl => ?_)
                            refine lv_goto (tgt := 69) hx hb dX1_counted_123 (by decide) ?_
                            exact ih (j + 1) 0 _ (by omega) (by omega) (fun h => absurd h (by decide)) (fun _ => h0c (by omega)) (by omega) _ _ hP hD hS ls (lv_sub hl [2, 3, 1, 0] rfl)
                          · refine lv_aload_n hx hb dX1_counted_83 rfl (lv_at hl 0 rfl) ?_
                            refine va_get (D := D) (ci := 1) (v := .ref a12) (C := RX1) (T := TX1) (N := 13) hx hb hts hinX1 hown hK hP 0 rfl rfl 12 (by decide) (hts (.fieldLink RX1 34 "SlicedCipherModel" "last" "[I") (by decide +kernel)) (fun _ h9 => h9) rfl dX1_counted_84 ?_
                            refine lv_iload_n hx hb dX1_counted_87 rfl (lv_at hl 3 rfl) ?_
                            refine wk_iald hx hb hK hP 6 0 rfl rfl (k := j) (by omega) (by decide) dX1_counted_88 ?_
                            refine lv_iconst (v := nI 1) hx hb dX1_counted_89 (by decide) ?_
                            refine lv_iadd hx hb dX1_counted_90 ?_
                            refine lv_goto (tgt := 100) hx hb dX1_counted_91 (by decide) ?_
                            refine wk_iast hx hb hK hP hD hS 6 0 rfl rfl (k := j) (x := (C j) + (nI 1)) (by omega) (by decide) dX1_counted_100 (fun H locs hP hD hS => ?_)
                            have hP : va_P D vwCl [(h0, .inr (1, [.int th, .ref a1, .int by0, .int rd, .ref a4, .ref a5, .ref a6, .ref a7, .int zz, .ref a9, .ref a10, .ref a11, .ref a12])), (a5, .inl (cI, 132, .inl Rn)), (a7, .inl (cI, 256, .inl (st4 f at0 (x4 (ld4 f at0) (cEnc (shf Rn) (ld4 z 0)))))), (a9, .inl (cI, 128, .inl TB)), (a10, .inl (cI, 4, .inl (st4 b 0 (cEnc (shf Rn) (ld4 z 0))))), (a11, .inl (cI, 4, .inl (u1 0))), (a12, .inl (cI, 4, .inl (upd C j ((C j) + (nI 1)))))] H := hP
                            have hD : va_D A [(h0, .inr (1, [.int th, .ref a1, .int by0, .int rd, .ref a4, .ref a5, .ref a6, .ref a7, .int zz, .ref a9, .ref a10, .ref a11, .ref a12])), (a5, .inl (cI, 132, .inl Rn)), (a7, .inl (cI, 256, .inl (st4 f at0 (x4 (ld4 f at0) (cEnc (shf Rn) (ld4 z 0)))))), (a9, .inl (cI, 128, .inl TB)), (a10, .inl (cI, 4, .inl (st4 b 0 (cEnc (shf Rn) (ld4 z 0))))), (a11, .inl (cI, 4, .inl (u1 0))), (a12, .inl (cI, 4, .inl (upd C j ((C j) + (nI 1)))))] := hD
                            refine lv_iload_n hx hb dX1_counted_101 rfl (lv_at hl 2 rfl) ?_
                            refine wk_eq0N (tgt := 118) hx hb (a := cy) (by omega) dX1_counted_102 (by decide) (fun c102 => absurd c102 (c80)) (fun c102 => ?_)
                            refine lv_aload_n hx hb dX1_counted_105 rfl (lv_at hl 0 rfl) ?_
                            refine va_get (D := D) (ci := 1) (v := .ref a12) (C := RX1) (T := TX1) (N := 13) hx hb hts hinX1 hown hK hP 0 rfl rfl 12 (by decide) (hts (.fieldLink RX1 34 "SlicedCipherModel" "last" "[I") (by decide +kernel)) (fun _ h9 => h9) rfl dX1_counted_106 ?_
                            refine lv_iload_n hx hb dX1_counted_109 rfl (lv_at hl 3 rfl) ?_
                            refine wk_iald hx hb hK hP 6 0 rfl rfl (k := j) (by omega) (by decide) dX1_counted_110 ?_
                            refine lv_if_ne (tgt := 118) hx hb dX1_counted_111 (by decide) (fun c111 => ?_) (fun c111 => ?_)
                            · refine lv_iconst (v := nI 0) hx hb dX1_counted_118 (by decide) ?_
                              refine lv_istore_n (lv' := [(2, .int (nI 0)), (0, .ref h0), (1, .int (nI at0)), (3, .int (nI j))]) hx hb dX1_counted_119 rfl hl (by decide) rfl (fun ls hl => ?_)
                              refine lv_iinc (v := nI (j + 1)) (lv' := [(3, .int (nI (j + 1))), (2, .int (nI 0)), (0, .ref h0), (1, .int (nI at0))]) hx hb dX1_counted_120 hl (k := 3) rfl (wk_inc j (by decide)) (by decide) rfl (fun ls hl => ?_)
                              refine lv_goto (tgt := 69) hx hb dX1_counted_123 (by decide) ?_
                              exact ih (j + 1) 0 _ (by omega) (by omega) (fun h => absurd h (by decide)) (fun _ => cIncF_s (by omega) (h1c (by omega)) c111) (by omega) _ _ hP hD hS ls (lv_sub hl [2, 3, 1, 0] rfl)
                            · refine lv_iconst (v := nI 1) hx hb dX1_counted_114 (by decide) ?_
                              refine lv_goto (tgt := 119) hx hb dX1_counted_115 (by decide) ?_
                              refine lv_istore_n (lv' := [(2, .int (nI 1)), (0, .ref h0), (1, .int (nI at0)), (3, .int (nI j))]) hx hb dX1_counted_119 rfl hl (by decide) rfl (fun ls hl => ?_)
                              refine lv_iinc (v := nI (j + 1)) (lv' := [(3, .int (nI (j + 1))), (2, .int (nI 1)), (0, .ref h0), (1, .int (nI at0))]) hx hb dX1_counted_120 hl (k := 3) rfl (wk_inc j (by decide)) (by decide) rfl (fun ls hl => ?_)
                              refine lv_goto (tgt := 69) hx hb dX1_counted_123 (by decide) ?_
                              exact ih (j + 1) 1 _ (by omega) (by omega) (fun _ => cIncF_z (by omega) (h1c (by omega)) c111) (fun h => absurd h (by decide)) (by omega) _ _ hP hD hS ls (lv_sub hl [2, 3, 1, 0] rfl)
                  exact lp3 5 0 1 z (by omega) (by omega) (fun _ => rfl) (fun h => absurd h (by decide)) (by omega) _ _ hP hD hS ls (lv_sub hl [2, 3, 1, 0] rfl)
                · refine lv_aload_n hx hb dX1_counted_36 rfl (lv_at hl 0 rfl) ?_
                  refine va_get (D := D) (ci := 1) (v := .ref a7) (C := RX1) (T := TX1) (N := 13) hx hb hts hinX1 hown hK hP 0 rfl rfl 7 (by decide) (hts (.fieldLink RX1 22 "SlicedCipherModel" "tape" "[I") (by decide +kernel)) (fun _ h9 => h9) rfl dX1_counted_37 ?_
                  refine lv_iload_n hx hb dX1_counted_40 rfl (lv_at hl 1 rfl) ?_
                  refine lv_iload_n hx hb dX1_counted_41 rfl (lv_at hl 2 rfl) ?_
                  refine wk_iaddN hx hb (a := at0) (b := j) dX1_counted_42 ?_
                  refine lv_aload_n hx hb dX1_counted_43 rfl (lv_at hl 0 rfl) ?_
                  refine va_get (D := D) (ci := 1) (v := .ref a7) (C := RX1) (T := TX1) (N := 13) hx hb hts hinX1 hown hK hP 0 rfl rfl 7 (by decide) (hts (.fieldLink RX1 22 "SlicedCipherModel" "tape" "[I") (by decide +kernel)) (fun _ h9 => h9) rfl dX1_counted_44 ?_
                  refine lv_iload_n hx hb dX1_counted_47 rfl (lv_at hl 1 rfl) ?_
                  refine lv_iload_n hx hb dX1_counted_48 rfl (lv_at hl 2 rfl) ?_
                  refine wk_iaddN hx hb (a := at0) (b := j) dX1_counted_49 ?_
                  refine wk_iald hx hb hK hP 2 0 rfl rfl (k := at0 + j) (by omega) (by decide) dX1_counted_50 ?_
                  refine lv_aload_n hx hb dX1_counted_51 rfl (lv_at hl 0 rfl) ?_
                  refine va_get (D := D) (ci := 1) (v := .ref a10) (C := RX1) (T := TX1) (N := 13) hx hb hts hinX1 hown hK hP 0 rfl rfl 10 (by decide) (hts (.fieldLink RX1 28 "SlicedCipherModel" "block" "[I") (by decide +kernel)) (fun _ h9 => h9) rfl dX1_counted_52 ?_
                  refine lv_iload_n hx hb dX1_counted_55 rfl (lv_at hl 2 rfl) ?_
                  refine wk_iald hx hb hK hP 4 0 rfl rfl (k := j) (by omega) (by decide) dX1_counted_56 ?_
                  refine lv_ixor hx hb dX1_counted_57 ?_
                  refine wk_iast hx hb hK hP hD hS 2 0 rfl rfl (k := at0 + j) (x := ((chT f (st4 b 0 (cEnc (shf Rn) (ld4 z 0))) at0 j) (at0 + j)) ^^^ ((st4 b 0 (cEnc (shf Rn) (ld4 z 0))) j)) (by omega) (by decide) dX1_counted_58 (fun H locs hP hD hS => ?_)
                  have hP : va_P D vwCl [(h0, .inr (1, [.int th, .ref a1, .int by0, .int rd, .ref a4, .ref a5, .ref a6, .ref a7, .int zz, .ref a9, .ref a10, .ref a11, .ref a12])), (a5, .inl (cI, 132, .inl Rn)), (a7, .inl (cI, 256, .inl (upd (chT f (st4 b 0 (cEnc (shf Rn) (ld4 z 0))) at0 j) (at0 + j) (((chT f (st4 b 0 (cEnc (shf Rn) (ld4 z 0))) at0 j) (at0 + j)) ^^^ ((st4 b 0 (cEnc (shf Rn) (ld4 z 0))) j))))), (a9, .inl (cI, 128, .inl TB)), (a10, .inl (cI, 4, .inl (st4 b 0 (cEnc (shf Rn) (ld4 z 0))))), (a11, .inl (cI, 4, .inl (u1 0))), (a12, .inl (cI, 4, .inl z))] H := hP
                  have hD : va_D A [(h0, .inr (1, [.int th, .ref a1, .int by0, .int rd, .ref a4, .ref a5, .ref a6, .ref a7, .int zz, .ref a9, .ref a10, .ref a11, .ref a12])), (a5, .inl (cI, 132, .inl Rn)), (a7, .inl (cI, 256, .inl (upd (chT f (st4 b 0 (cEnc (shf Rn) (ld4 z 0))) at0 j) (at0 + j) (((chT f (st4 b 0 (cEnc (shf Rn) (ld4 z 0))) at0 j) (at0 + j)) ^^^ ((st4 b 0 (cEnc (shf Rn) (ld4 z 0))) j))))), (a9, .inl (cI, 128, .inl TB)), (a10, .inl (cI, 4, .inl (st4 b 0 (cEnc (shf Rn) (ld4 z 0))))), (a11, .inl (cI, 4, .inl (u1 0))), (a12, .inl (cI, 4, .inl z))] := hD
                  refine lv_iinc (v := nI (j + 1)) (lv' := [(2, .int (nI (j + 1))), (0, .ref h0), (1, .int (nI at0))]) hx hb dX1_counted_59 hl (k := 2) rfl (wk_inc j (by decide)) (by decide) rfl (fun ls hl => ?_)
                  refine lv_goto (tgt := 31) hx hb dX1_counted_62 (by decide) ?_
                  exact ih (j + 1) (by omega) (by omega) _ _ hP hD hS ls (lv_sub hl [1, 2, 0] rfl)
          exact lp2 5 0 (by omega) (by omega) _ _ hP hD hS ls (lv_sub hl [1, 2, 0] rfl)
        · refine lv_aload_n hx hb dX1_counted_7 rfl (lv_at hl 0 rfl) ?_
          refine va_get (D := D) (ci := 1) (v := .ref a10) (C := RX1) (T := TX1) (N := 13) hx hb hts hinX1 hown hK hP 0 rfl rfl 10 (by decide) (hts (.fieldLink RX1 28 "SlicedCipherModel" "block" "[I") (by decide +kernel)) (fun _ h9 => h9) rfl dX1_counted_8 ?_
          refine lv_iload_n hx hb dX1_counted_11 rfl (lv_at hl 2 rfl) ?_
          refine lv_aload_n hx hb dX1_counted_12 rfl (lv_at hl 0 rfl) ?_
          refine va_get (D := D) (ci := 1) (v := .ref a12) (C := RX1) (T := TX1) (N := 13) hx hb hts hinX1 hown hK hP 0 rfl rfl 12 (by decide) (hts (.fieldLink RX1 34 "SlicedCipherModel" "last" "[I") (by decide +kernel)) (fun _ h9 => h9) rfl dX1_counted_13 ?_
          refine lv_iload_n hx hb dX1_counted_16 rfl (lv_at hl 2 rfl) ?_
          refine wk_iald hx hb hK hP 6 0 rfl rfl (k := j) (by omega) (by decide) dX1_counted_17 ?_
          refine wk_iast hx hb hK hP hD hS 4 0 rfl rfl (k := j) (x := z j) (by omega) (by decide) dX1_counted_18 (fun H locs hP hD hS => ?_)
          have hP : va_P D vwCl [(h0, .inr (1, [.int th, .ref a1, .int by0, .int rd, .ref a4, .ref a5, .ref a6, .ref a7, .int zz, .ref a9, .ref a10, .ref a11, .ref a12])), (a5, .inl (cI, 132, .inl Rn)), (a7, .inl (cI, 256, .inl f)), (a9, .inl (cI, 128, .inl TB)), (a10, .inl (cI, 4, .inl (upd (cpZ b z j) j (z j)))), (a11, .inl (cI, 4, .inl d)), (a12, .inl (cI, 4, .inl z))] H := hP
          have hD : va_D A [(h0, .inr (1, [.int th, .ref a1, .int by0, .int rd, .ref a4, .ref a5, .ref a6, .ref a7, .int zz, .ref a9, .ref a10, .ref a11, .ref a12])), (a5, .inl (cI, 132, .inl Rn)), (a7, .inl (cI, 256, .inl f)), (a9, .inl (cI, 128, .inl TB)), (a10, .inl (cI, 4, .inl (upd (cpZ b z j) j (z j)))), (a11, .inl (cI, 4, .inl d)), (a12, .inl (cI, 4, .inl z))] := hD
          refine lv_iinc (v := nI (j + 1)) (lv' := [(2, .int (nI (j + 1))), (0, .ref h0), (1, .int (nI at0))]) hx hb dX1_counted_19 hl (k := 2) rfl (wk_inc j (by decide)) (by decide) rfl (fun ls hl => ?_)
          refine lv_goto (tgt := 2) hx hb dX1_counted_22 (by decide) ?_
          exact ih (j + 1) (by omega) (by omega) _ _ hP hD hS ls (lv_sub hl [1, 2, 0] rfl)
  refine lv_iconst (v := nI 0) hx hb dX1_counted_0 (by decide) ?_
  refine lv_istore_n (lv' := [(2, .int (nI 0)), (0, .ref h0), (1, .int (nI at0))]) hx hb dX1_counted_1 rfl hl (by decide) rfl (fun ls hl => ?_)
  exact lp1 5 0 (by omega) (by omega) _ _ hP hD hS ls (lv_sub hl [1, 2, 0] rfl)
