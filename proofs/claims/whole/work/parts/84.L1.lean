/-! out of range: the class's words and the reference's -/
theorem i_up {i : Int32} {n : Nat} (hn : n + 1 < 2 ^ 31) : nI (n + 1) ≤ i ↔ nI n < i := by
  rw [Int32.le_iff_toInt_le, Int32.lt_iff_toInt_lt, nI_toInt hn, nI_toInt (by omega)]
  omega
theorem rgX {i : Int32} {n : Nat} (h : i < 0 ∨ nI n ≤ i) : i < nI 0 ∨ (¬ i < nI 0 ∧ ¬ i < nI n) := by
  by_cases h0 : i < nI 0
  · exact Or.inl h0
  · exact Or.inr ⟨h0, Int32.not_lt.mpr (h.resolve_left h0)⟩
theorem rgL {i : Int32} {n : Nat} (hn : n + 1 < 2 ^ 31) (h : i < 0 ∨ nI (n + 1) ≤ i) : i < nI 0 ∨ (¬ i < nI 0 ∧ ¬ i ≤ nI n) := by
  by_cases h0 : i < nI 0
  · exact Or.inl h0
  · exact Or.inr ⟨h0, Int32.not_le.mpr ((i_up hn).mp (h.resolve_left h0))⟩
theorem rgM {i : Int32} {n : Nat} (hn : n + 1 < 2 ^ 31) (h : i < 0 ∨ nI (n + 1) ≤ i) : i < nI 0 ∨ (¬ i < nI 0 ∧ nI n < i) := by
  by_cases h0 : i < nI 0
  · exact Or.inl h0
  · exact Or.inr ⟨h0, (i_up hn).mp (h.resolve_left h0)⟩
theorem rgW {i : Int32} {n : Nat} (hn : n ≤ 256) (h : i < 0 ∨ nI n ≤ i) : i < nI 0 ∨ (¬ i < nI 0 ∧ nI n - nI 1 < i) := by
  by_cases h0 : i < nI 0
  · exact Or.inl h0
  · refine Or.inr ⟨h0, ?_⟩
    rcases n with _ | n
    · have h1 : (nI 0 - nI 1 : Int32) < nI 0 := by decide
      exact Int32.lt_of_lt_of_le h1 (Int32.not_lt.mp h0)
    · rw [pk_sub (by omega)]
      exact (i_up (by omega)).mp (h.resolve_left h0)
theorem c_X0_key0 (l : Launch) (hlt : l.stackTraces = false) (D : va_G) (cI : ClassId) (sa : Nat) (h0 kw sc so tp ct sr : Nat) (kb kr tl : Int32) (i v : Int32) (sz : Nat) (hbad : i < nI 0 ∨ (¬ i < nI 0 ∧ ¬ i < nI 8)) : vx_Met l yX0_key wsX0_key ({ frames := 6, cells := 1, slots := 6, locals := 82 }) (va_Pc [.ref h0, .int i, .int v] (fun U => PW D [(cI, .int)] [(h0, .inr (0, [.ref kw, .int kb, .int kr, .ref sc, .ref so, .ref tp, .int tl, .ref ct, .ref sr]))] sz U ∧ thw "java/lang/IndexOutOfBoundsException" 41 "no such word of the key" sa (va_A [(h0, .inr (0, [.ref kw, .int kb, .int kr, .ref sc, .ref so, .ref tp, .int tl, .ref ct, .ref sr]))] sz) U U.heap)) (va_Qv (fun _ : Unit => False) (fun _ _ => True) (va_A [(h0, .inr (0, [.ref kw, .int kb, .int kr, .ref sc, .ref so, .ref tp, .int tl, .ref ct, .ref sr]))] sz)) (vx_X (fun _ : Unit => True) (fun E _ t => E = "java/lang/IndexOutOfBoundsException" ∧ BW D [(cI, .int)] (va_A [(h0, .inr (0, [.ref kw, .int kb, .int kr, .ref sc, .ref so, .ref tp, .int tl, .ref ct, .ref sr]))] sz) [(h0, .inr (0, [.ref kw, .int kb, .int kr, .ref sc, .ref so, .ref tp, .int tl, .ref ct, .ref sr]))] t) (va_A [(h0, .inr (0, [.ref kw, .int kb, .int kr, .ref sc, .ref so, .ref tp, .int tl, .ref ct, .ref sr]))] sz)) 1 6 (va_A [(h0, .inr (0, [.ref kw, .int kb, .int kr, .ref sc, .ref so, .ref tp, .int tl, .ref ct, .ref sr]))] sz) := hbad.elim (c_X0_key0a l hlt D cI sa h0 kw sc so tp ct sr kb kr tl i v sz) (c_X0_key0b l hlt D cI sa h0 kw sc so tp ct sr kb kr tl i v sz)
theorem c_X0_size0 (l : Launch) (hlt : l.stackTraces = false) (D : va_G) (cI : ClassId) (sa : Nat) (h0 kw sc so tp ct sr : Nat) (kb kr tl : Int32) (i : Int32) (sz : Nat) (hbad : i < nI 0 ∨ (¬ i < nI 0 ∧ ¬ i ≤ nI 32)) : vx_Met l yX0_size wsX0_size ({ frames := 6, cells := 1, slots := 6, locals := 82 }) (va_Pc [.ref h0, .int i] (fun U => PW D [(cI, .int)] [(h0, .inr (0, [.ref kw, .int kb, .int kr, .ref sc, .ref so, .ref tp, .int tl, .ref ct, .ref sr]))] sz U ∧ thw "java/lang/IllegalArgumentException" 48 "a key has 0 to 32 bytes" sa (va_A [(h0, .inr (0, [.ref kw, .int kb, .int kr, .ref sc, .ref so, .ref tp, .int tl, .ref ct, .ref sr]))] sz) U U.heap)) (va_Qv (fun _ : Unit => False) (fun _ _ => True) (va_A [(h0, .inr (0, [.ref kw, .int kb, .int kr, .ref sc, .ref so, .ref tp, .int tl, .ref ct, .ref sr]))] sz)) (vx_X (fun _ : Unit => True) (fun E _ t => E = "java/lang/IllegalArgumentException" ∧ BW D [(cI, .int)] (va_A [(h0, .inr (0, [.ref kw, .int kb, .int kr, .ref sc, .ref so, .ref tp, .int tl, .ref ct, .ref sr]))] sz) [(h0, .inr (0, [.ref kw, .int kb, .int kr, .ref sc, .ref so, .ref tp, .int tl, .ref ct, .ref sr]))] t) (va_A [(h0, .inr (0, [.ref kw, .int kb, .int kr, .ref sc, .ref so, .ref tp, .int tl, .ref ct, .ref sr]))] sz)) 1 6 (va_A [(h0, .inr (0, [.ref kw, .int kb, .int kr, .ref sc, .ref so, .ref tp, .int tl, .ref ct, .ref sr]))] sz) := hbad.elim (c_X0_size0a l hlt D cI sa h0 kw sc so tp ct sr kb kr tl i sz) (c_X0_size0b l hlt D cI sa h0 kw sc so tp ct sr kb kr tl i sz)
theorem c_X0_box0 (l : Launch) (hlt : l.stackTraces = false) (D : va_G) (cI : ClassId) (sa : Nat) (h0 kw sc so tp ct sr : Nat) (kb kr tl : Int32) (i v bb : Int32) (sz : Nat) (hbad : i < nI 0 ∨ (¬ i < nI 0 ∧ ¬ i < nI 8)) : vx_Met l yX0_box wsX0_box ({ frames := 6, cells := 1, slots := 6, locals := 82 }) (va_Pc [.ref h0, .int i, .int v, .int bb] (fun U => PW D [(cI, .int)] [(h0, .inr (0, [.ref kw, .int kb, .int kr, .ref sc, .ref so, .ref tp, .int tl, .ref ct, .ref sr]))] sz U ∧ thw "java/lang/IndexOutOfBoundsException" 76 "no such box" sa (va_A [(h0, .inr (0, [.ref kw, .int kb, .int kr, .ref sc, .ref so, .ref tp, .int tl, .ref ct, .ref sr]))] sz) U U.heap)) (va_Qi (fun (_ : Int32) (_ : Unit) => False) (fun _ _ => True) (va_A [(h0, .inr (0, [.ref kw, .int kb, .int kr, .ref sc, .ref so, .ref tp, .int tl, .ref ct, .ref sr]))] sz)) (vx_X (fun _ : Unit => True) (fun E _ t => E = "java/lang/IndexOutOfBoundsException" ∧ BW D [(cI, .int)] (va_A [(h0, .inr (0, [.ref kw, .int kb, .int kr, .ref sc, .ref so, .ref tp, .int tl, .ref ct, .ref sr]))] sz) [(h0, .inr (0, [.ref kw, .int kb, .int kr, .ref sc, .ref so, .ref tp, .int tl, .ref ct, .ref sr]))] t) (va_A [(h0, .inr (0, [.ref kw, .int kb, .int kr, .ref sc, .ref so, .ref tp, .int tl, .ref ct, .ref sr]))] sz)) 1 6 (va_A [(h0, .inr (0, [.ref kw, .int kb, .int kr, .ref sc, .ref so, .ref tp, .int tl, .ref ct, .ref sr]))] sz) := hbad.elim (c_X0_box0a l hlt D cI sa h0 kw sc so tp ct sr kb kr tl i v bb sz) (c_X0_box0b l hlt D cI sa h0 kw sc so tp ct sr kb kr tl i v bb sz)
theorem c_X0_box2 (l : Launch) (hlt : l.stackTraces = false) (D : va_G) (cI : ClassId) (sa : Nat) (h0 kw sc so tp ct sr : Nat) (kb kr tl : Int32) (wh : Nat) (i bb : Int32) (sz : Nat) (hw : wh < 8) (hbad : i < nI 0 ∨ (¬ i < nI 0 ∧ ¬ i < nI 16)) : vx_Met l yX0_box wsX0_box ({ frames := 6, cells := 1, slots := 6, locals := 82 }) (va_Pc [.ref h0, .int (nI wh), .int i, .int bb] (fun U => PW D [(cI, .int)] [(h0, .inr (0, [.ref kw, .int kb, .int kr, .ref sc, .ref so, .ref tp, .int tl, .ref ct, .ref sr]))] sz U ∧ thw "java/lang/IllegalArgumentException" 78 "a box changes 0 to 15" sa (va_A [(h0, .inr (0, [.ref kw, .int kb, .int kr, .ref sc, .ref so, .ref tp, .int tl, .ref ct, .ref sr]))] sz) U U.heap)) (va_Qi (fun (_ : Int32) (_ : Unit) => False) (fun _ _ => True) (va_A [(h0, .inr (0, [.ref kw, .int kb, .int kr, .ref sc, .ref so, .ref tp, .int tl, .ref ct, .ref sr]))] sz)) (vx_X (fun _ : Unit => True) (fun E _ t => E = "java/lang/IllegalArgumentException" ∧ BW D [(cI, .int)] (va_A [(h0, .inr (0, [.ref kw, .int kb, .int kr, .ref sc, .ref so, .ref tp, .int tl, .ref ct, .ref sr]))] sz) [(h0, .inr (0, [.ref kw, .int kb, .int kr, .ref sc, .ref so, .ref tp, .int tl, .ref ct, .ref sr]))] t) (va_A [(h0, .inr (0, [.ref kw, .int kb, .int kr, .ref sc, .ref so, .ref tp, .int tl, .ref ct, .ref sr]))] sz)) 1 6 (va_A [(h0, .inr (0, [.ref kw, .int kb, .int kr, .ref sc, .ref so, .ref tp, .int tl, .ref ct, .ref sr]))] sz) := hbad.elim (c_X0_box2a l hlt D cI sa h0 kw sc so tp ct sr kb kr tl wh i bb sz hw) (c_X0_box2b l hlt D cI sa h0 kw sc so tp ct sr kb kr tl wh i bb sz hw)
theorem c_X0_start0 (l : Launch) (hlt : l.stackTraces = false) (D : va_G) (cI : ClassId) (sa : Nat) (h0 kw sc so tp ct sr : Nat) (kb kr tl : Int32) (i v : Int32) (sz : Nat) (hbad : i < nI 0 ∨ (¬ i < nI 0 ∧ ¬ i < nI 4)) : vx_Met l yX0_start wsX0_start ({ frames := 6, cells := 1, slots := 6, locals := 82 }) (va_Pc [.ref h0, .int i, .int v] (fun U => PW D [(cI, .int)] [(h0, .inr (0, [.ref kw, .int kb, .int kr, .ref sc, .ref so, .ref tp, .int tl, .ref ct, .ref sr]))] sz U ∧ thw "java/lang/IndexOutOfBoundsException" 86 "no such word of the start" sa (va_A [(h0, .inr (0, [.ref kw, .int kb, .int kr, .ref sc, .ref so, .ref tp, .int tl, .ref ct, .ref sr]))] sz) U U.heap)) (va_Qv (fun _ : Unit => False) (fun _ _ => True) (va_A [(h0, .inr (0, [.ref kw, .int kb, .int kr, .ref sc, .ref so, .ref tp, .int tl, .ref ct, .ref sr]))] sz)) (vx_X (fun _ : Unit => True) (fun E _ t => E = "java/lang/IndexOutOfBoundsException" ∧ BW D [(cI, .int)] (va_A [(h0, .inr (0, [.ref kw, .int kb, .int kr, .ref sc, .ref so, .ref tp, .int tl, .ref ct, .ref sr]))] sz) [(h0, .inr (0, [.ref kw, .int kb, .int kr, .ref sc, .ref so, .ref tp, .int tl, .ref ct, .ref sr]))] t) (va_A [(h0, .inr (0, [.ref kw, .int kb, .int kr, .ref sc, .ref so, .ref tp, .int tl, .ref ct, .ref sr]))] sz)) 1 6 (va_A [(h0, .inr (0, [.ref kw, .int kb, .int kr, .ref sc, .ref so, .ref tp, .int tl, .ref ct, .ref sr]))] sz) := hbad.elim (c_X0_start0a l hlt D cI sa h0 kw sc so tp ct sr kb kr tl i v sz) (c_X0_start0b l hlt D cI sa h0 kw sc so tp ct sr kb kr tl i v sz)
theorem c_X0_cut0 (l : Launch) (hlt : l.stackTraces = false) (D : va_G) (cI : ClassId) (sa : Nat) (h0 kw sc so tp ct sr : Nat) (kb kr : Int32) (sz0 : Nat) (i : Int32) (sz : Nat) (hbad : i < nI 0 ∨ (¬ i < nI 0 ∧ ¬ i ≤ nI sz0)) : vx_Met l yX0_cut wsX0_cut ({ frames := 6, cells := 1, slots := 6, locals := 82 }) (va_Pc [.ref h0, .int i] (fun U => PW D [(cI, .int)] [(h0, .inr (0, [.ref kw, .int kb, .int kr, .ref sc, .ref so, .ref tp, .int (nI sz0), .ref ct, .ref sr]))] sz U ∧ thw "java/lang/IllegalArgumentException" 93 "the tape has no such length to keep" sa (va_A [(h0, .inr (0, [.ref kw, .int kb, .int kr, .ref sc, .ref so, .ref tp, .int (nI sz0), .ref ct, .ref sr]))] sz) U U.heap)) (va_Qi (fun (_ : Int32) (_ : Unit) => False) (fun _ _ => True) (va_A [(h0, .inr (0, [.ref kw, .int kb, .int kr, .ref sc, .ref so, .ref tp, .int (nI sz0), .ref ct, .ref sr]))] sz)) (vx_X (fun _ : Unit => True) (fun E _ t => E = "java/lang/IllegalArgumentException" ∧ BW D [(cI, .int)] (va_A [(h0, .inr (0, [.ref kw, .int kb, .int kr, .ref sc, .ref so, .ref tp, .int (nI sz0), .ref ct, .ref sr]))] sz) [(h0, .inr (0, [.ref kw, .int kb, .int kr, .ref sc, .ref so, .ref tp, .int (nI sz0), .ref ct, .ref sr]))] t) (va_A [(h0, .inr (0, [.ref kw, .int kb, .int kr, .ref sc, .ref so, .ref tp, .int (nI sz0), .ref ct, .ref sr]))] sz)) 1 6 (va_A [(h0, .inr (0, [.ref kw, .int kb, .int kr, .ref sc, .ref so, .ref tp, .int (nI sz0), .ref ct, .ref sr]))] sz) := hbad.elim (c_X0_cut0a l hlt D cI sa h0 kw sc so tp ct sr kb kr sz0 i sz) (c_X0_cut0b l hlt D cI sa h0 kw sc so tp ct sr kb kr sz0 i sz)
theorem c_X0_word0 (l : Launch) (hlt : l.stackTraces = false) (D : va_G) (cI : ClassId) (sa : Nat) (h0 kw sc so tp ct sr : Nat) (kb kr : Int32) (sz0 : Nat) (i : Int32) (sz : Nat) (hbad : i < nI 0 ∨ (¬ i < nI 0 ∧ ¬ i < nI sz0)) : vx_Met l yX0_word wsX0_word ({ frames := 6, cells := 1, slots := 6, locals := 82 }) (va_Pc [.ref h0, .int i] (fun U => PW D [(cI, .int)] [(h0, .inr (0, [.ref kw, .int kb, .int kr, .ref sc, .ref so, .ref tp, .int (nI sz0), .ref ct, .ref sr]))] sz U ∧ thw "java/lang/IndexOutOfBoundsException" 95 "no such word of the tape" sa (va_A [(h0, .inr (0, [.ref kw, .int kb, .int kr, .ref sc, .ref so, .ref tp, .int (nI sz0), .ref ct, .ref sr]))] sz) U U.heap)) (va_Qi (fun (_ : Int32) (_ : Unit) => False) (fun _ _ => True) (va_A [(h0, .inr (0, [.ref kw, .int kb, .int kr, .ref sc, .ref so, .ref tp, .int (nI sz0), .ref ct, .ref sr]))] sz)) (vx_X (fun _ : Unit => True) (fun E _ t => E = "java/lang/IndexOutOfBoundsException" ∧ BW D [(cI, .int)] (va_A [(h0, .inr (0, [.ref kw, .int kb, .int kr, .ref sc, .ref so, .ref tp, .int (nI sz0), .ref ct, .ref sr]))] sz) [(h0, .inr (0, [.ref kw, .int kb, .int kr, .ref sc, .ref so, .ref tp, .int (nI sz0), .ref ct, .ref sr]))] t) (va_A [(h0, .inr (0, [.ref kw, .int kb, .int kr, .ref sc, .ref so, .ref tp, .int (nI sz0), .ref ct, .ref sr]))] sz)) 1 6 (va_A [(h0, .inr (0, [.ref kw, .int kb, .int kr, .ref sc, .ref so, .ref tp, .int (nI sz0), .ref ct, .ref sr]))] sz) := hbad.elim (c_X0_word0a l hlt D cI sa h0 kw sc so tp ct sr kb kr sz0 i sz) (c_X0_word0b l hlt D cI sa h0 kw sc so tp ct sr kb kr sz0 i sz)
theorem c_X0_run0 (l : Launch) (hlt : l.stackTraces = false) (D : va_G) (cI : ClassId) (sa : Nat) (h0 kw sc so tp ct sr : Nat) (kb kr tl : Int32) (i bb : Int32) (sz : Nat) (hbad : i < nI 0 ∨ (¬ i < nI 0 ∧ ¬ i ≤ nI 2)) : vx_Met l yX0_run wsX0_run ({ frames := 7, cells := 1, slots := 6, locals := 112 }) (va_Pc [.ref h0, .int i, .int bb] (fun U => PW D [(cI, .int)] [(h0, .inr (0, [.ref kw, .int kb, .int kr, .ref sc, .ref so, .ref tp, .int tl, .ref ct, .ref sr]))] sz U ∧ thw "java/lang/IllegalArgumentException" 97 "no such mode" sa (va_A [(h0, .inr (0, [.ref kw, .int kb, .int kr, .ref sc, .ref so, .ref tp, .int tl, .ref ct, .ref sr]))] sz) U U.heap)) (va_Qi (fun (_ : Int32) (_ : Unit) => False) (fun _ _ => True) (va_A [(h0, .inr (0, [.ref kw, .int kb, .int kr, .ref sc, .ref so, .ref tp, .int tl, .ref ct, .ref sr]))] sz)) (vx_X (fun _ : Unit => True) (fun E _ t => E = "java/lang/IllegalArgumentException" ∧ BW D [(cI, .int)] (va_A [(h0, .inr (0, [.ref kw, .int kb, .int kr, .ref sc, .ref so, .ref tp, .int tl, .ref ct, .ref sr]))] sz) [(h0, .inr (0, [.ref kw, .int kb, .int kr, .ref sc, .ref so, .ref tp, .int tl, .ref ct, .ref sr]))] t) (va_A [(h0, .inr (0, [.ref kw, .int kb, .int kr, .ref sc, .ref so, .ref tp, .int tl, .ref ct, .ref sr]))] sz)) 1 6 (va_A [(h0, .inr (0, [.ref kw, .int kb, .int kr, .ref sc, .ref so, .ref tp, .int tl, .ref ct, .ref sr]))] sz) := hbad.elim (c_X0_run0a l hlt D cI sa h0 kw sc so tp ct sr kb kr tl i bb sz) (c_X0_run0b l hlt D cI sa h0 kw sc so tp ct sr kb kr tl i bb sz)
theorem c_X0_seal0 (l : Launch) (hlt : l.stackTraces = false) (D : va_G) (cI : ClassId) (sa : Nat) (h0 kw sc so tp ct sr : Nat) (kb kr tl : Int32) (i : Int32) (sz : Nat) (hbad : i < nI 0 ∨ (¬ i < nI 0 ∧ ¬ i < nI 4)) : vx_Met l yX0_seal wsX0_seal ({ frames := 7, cells := 1, slots := 6, locals := 112 }) (va_Pc [.ref h0, .int i] (fun U => PW D [(cI, .int)] [(h0, .inr (0, [.ref kw, .int kb, .int kr, .ref sc, .ref so, .ref tp, .int tl, .ref ct, .ref sr]))] sz U ∧ thw "java/lang/IndexOutOfBoundsException" 115 "no such word of the seal" sa (va_A [(h0, .inr (0, [.ref kw, .int kb, .int kr, .ref sc, .ref so, .ref tp, .int tl, .ref ct, .ref sr]))] sz) U U.heap)) (va_Qi (fun (_ : Int32) (_ : Unit) => False) (fun _ _ => True) (va_A [(h0, .inr (0, [.ref kw, .int kb, .int kr, .ref sc, .ref so, .ref tp, .int tl, .ref ct, .ref sr]))] sz)) (vx_X (fun _ : Unit => True) (fun E _ t => E = "java/lang/IndexOutOfBoundsException" ∧ BW D [(cI, .int)] (va_A [(h0, .inr (0, [.ref kw, .int kb, .int kr, .ref sc, .ref so, .ref tp, .int tl, .ref ct, .ref sr]))] sz) [(h0, .inr (0, [.ref kw, .int kb, .int kr, .ref sc, .ref so, .ref tp, .int tl, .ref ct, .ref sr]))] t) (va_A [(h0, .inr (0, [.ref kw, .int kb, .int kr, .ref sc, .ref so, .ref tp, .int tl, .ref ct, .ref sr]))] sz)) 1 6 (va_A [(h0, .inr (0, [.ref kw, .int kb, .int kr, .ref sc, .ref so, .ref tp, .int tl, .ref ct, .ref sr]))] sz) := hbad.elim (c_X0_seal0a l hlt D cI sa h0 kw sc so tp ct sr kb kr tl i sz) (c_X0_seal0b l hlt D cI sa h0 kw sc so tp ct sr kb kr tl i sz)
theorem c_X0_round0 (l : Launch) (hlt : l.stackTraces = false) (D : va_G) (cI : ClassId) (sa : Nat) (h0 kw sc so tp ct sr : Nat) (kb kr tl : Int32) (i j : Int32) (sz : Nat) (hbad : i < nI 0 ∨ (¬ i < nI 0 ∧ nI 32 < i)) : vx_Met l yX0_round wsX0_round ({ frames := 7, cells := 1, slots := 6, locals := 112 }) (va_Pc [.ref h0, .int i, .int j] (fun U => PW D [(cI, .int)] [(h0, .inr (0, [.ref kw, .int kb, .int kr, .ref sc, .ref so, .ref tp, .int tl, .ref ct, .ref sr]))] sz U ∧ thw "java/lang/IndexOutOfBoundsException" 71 "no such word of a round key" sa (va_A [(h0, .inr (0, [.ref kw, .int kb, .int kr, .ref sc, .ref so, .ref tp, .int tl, .ref ct, .ref sr]))] sz) U U.heap)) (va_Qi (fun (_ : Int32) (_ : Unit) => False) (fun _ _ => True) (va_A [(h0, .inr (0, [.ref kw, .int kb, .int kr, .ref sc, .ref so, .ref tp, .int tl, .ref ct, .ref sr]))] sz)) (vx_X (fun _ : Unit => True) (fun E _ t => E = "java/lang/IndexOutOfBoundsException" ∧ BW D [(cI, .int)] (va_A [(h0, .inr (0, [.ref kw, .int kb, .int kr, .ref sc, .ref so, .ref tp, .int tl, .ref ct, .ref sr]))] sz) [(h0, .inr (0, [.ref kw, .int kb, .int kr, .ref sc, .ref so, .ref tp, .int tl, .ref ct, .ref sr]))] t) (va_A [(h0, .inr (0, [.ref kw, .int kb, .int kr, .ref sc, .ref so, .ref tp, .int tl, .ref ct, .ref sr]))] sz)) 1 6 (va_A [(h0, .inr (0, [.ref kw, .int kb, .int kr, .ref sc, .ref so, .ref tp, .int tl, .ref ct, .ref sr]))] sz) := hbad.elim (c_X0_round0a l hlt D cI sa h0 kw sc so tp ct sr kb kr tl i j sz) (c_X0_round0b l hlt D cI sa h0 kw sc so tp ct sr kb kr tl i j sz)
theorem c_X0_round0j (l : Launch) (hlt : l.stackTraces = false) (D : va_G) (cI : ClassId) (sa : Nat) (h0 kw sc so tp ct sr : Nat) (kb kr tl : Int32) (r : Nat) (j : Int32) (sz : Nat) (hr : r ≤ 32) (hbad : j < nI 0 ∨ (¬ j < nI 0 ∧ ¬ j < nI 4)) : vx_Met l yX0_round wsX0_round ({ frames := 7, cells := 1, slots := 6, locals := 112 }) (va_Pc [.ref h0, .int (nI r), .int j] (fun U => PW D [(cI, .int)] [(h0, .inr (0, [.ref kw, .int kb, .int kr, .ref sc, .ref so, .ref tp, .int tl, .ref ct, .ref sr]))] sz U ∧ thw "java/lang/IndexOutOfBoundsException" 71 "no such word of a round key" sa (va_A [(h0, .inr (0, [.ref kw, .int kb, .int kr, .ref sc, .ref so, .ref tp, .int tl, .ref ct, .ref sr]))] sz) U U.heap)) (va_Qi (fun (_ : Int32) (_ : Unit) => False) (fun _ _ => True) (va_A [(h0, .inr (0, [.ref kw, .int kb, .int kr, .ref sc, .ref so, .ref tp, .int tl, .ref ct, .ref sr]))] sz)) (vx_X (fun _ : Unit => True) (fun E _ t => E = "java/lang/IndexOutOfBoundsException" ∧ BW D [(cI, .int)] (va_A [(h0, .inr (0, [.ref kw, .int kb, .int kr, .ref sc, .ref so, .ref tp, .int tl, .ref ct, .ref sr]))] sz) [(h0, .inr (0, [.ref kw, .int kb, .int kr, .ref sc, .ref so, .ref tp, .int tl, .ref ct, .ref sr]))] t) (va_A [(h0, .inr (0, [.ref kw, .int kb, .int kr, .ref sc, .ref so, .ref tp, .int tl, .ref ct, .ref sr]))] sz)) 1 6 (va_A [(h0, .inr (0, [.ref kw, .int kb, .int kr, .ref sc, .ref so, .ref tp, .int tl, .ref ct, .ref sr]))] sz) := hbad.elim (c_X0_round0c l hlt D cI sa h0 kw sc so tp ct sr kb kr tl r j sz hr) (c_X0_round0d l hlt D cI sa h0 kw sc so tp ct sr kb kr tl r j sz hr)
set_option maxHeartbeats 4000000 in
set_option maxRecDepth 100000 in
theorem c_L_key1 (l : Launch) (D : va_G) (cI cJ : ClassId) (h0 kw sc so tp ct sr : Nat) (kb kr tl : Int32) (k : Nat) (v : Int32) (K : Nat → Int32) (sz : Nat) (hk : k < 8) : Met l yL_key wsL_key ({ frames := 1, cells := 0, slots := 0, locals := 22 }) (va_Pc [.ref h0, .int (nI k), .int v] (fun U => PW D [(cI, .int), (cJ, .long)] [(h0, .inr (0, [.ref kw, .int kb, .int kr, .ref sc, .ref so, .ref tp, .int tl, .ref ct, .ref sr])), (kw, .inl (cI, 8, .inl K))] sz U ∧ True)) (va_Qi (fun r9 (u : Nat → Nat → Int32) => r9 = nI 0) (fun u => BW D [(cI, .int), (cJ, .long)] (va_A [(h0, .inr (0, [.ref kw, .int kb, .int kr, .ref sc, .ref so, .ref tp, .int tl, .ref ct, .ref sr])), (kw, .inl (cI, 8, .inl K))] sz) [(h0, .inr (0, [.ref kw, .int kb, .int (nI 0), .ref sc, .ref so, .ref tp, .int tl, .ref ct, .ref sr])), (kw, .inl (cI, 8, .inl (upd K k v)))]) (va_A [(h0, .inr (0, [.ref kw, .int kb, .int kr, .ref sc, .ref so, .ref tp, .int tl, .ref ct, .ref sr])), (kw, .inl (cI, 8, .inl K))] sz)) 0 0 (va_A [(h0, .inr (0, [.ref kw, .int kb, .int kr, .ref sc, .ref so, .ref tp, .int tl, .ref ct, .ref sr])), (kw, .inl (cI, 8, .inl K))] sz) := by
  refine va_MetW (cc := cL_key) (maxL := 4) (ret := (some .int)) (hh := [(0, 6, 9, 13)]) (by decide) rfl ?_
  intro p e s m args below meth c s₁ B hml hv
  obtain ⟨rfl, ⟨hsz, hP, hK2, hD0⟩, -⟩ := hv
  have hK := hK2.sub (tys' := [(cI, .int)]) [0] rfl
  have hx := B.exec
  have hb := B.bytes
  have hr := B.returns
  have hts := atoms_spec (ws := wsL_key) B.pre
  have hown : s.vm.findClass RL = some m.cls := findClass_of_methodNamed B.named
  have hlocks := B.notSynchronized
  subst hsz
  have hD := hD0.self (sz := s.heap.size)
  generalize hAe : va_A [(h0, .inr (0, [.ref kw, .int kb, .int kr, .ref sc, .ref so, .ref tp, .int tl, .ref ct, .ref sr])), (kw, .inl (cI, 8, .inl K))] s.heap.size = A at hD ⊢
  have hA : ∀ q : Nat, s.heap.size ≤ q → A q := fun q h => by rw [← hAe]; exact Or.inr h
  have hS : va_S A s.heap s.heap [] := va_S.rf
  have hl := lv_entry ([.ref h0, .int (nI k), .int v]) (n := 4) (Nat.le_of_ble_eq_true rfl)
  rw [lg_entry_eq]
  generalize (lg_sl ([.ref h0, .int (nI k), .int v]) ++ List.replicate (4 - (lg_sl ([.ref h0, .int (nI k), .int v])).length) Slot.unset).toArray = ls at hl ⊢
  have hl : lv_has ls 4 [(0, .ref h0), (1, .int (nI k)), (2, .int v)] := hl
  refine lv_aload_n hx hb dL_key_0 rfl (lv_at hl 0 rfl) ?_
  refine lv_iload_n hx hb dL_key_1 rfl (lv_at hl 1 rfl) ?_
  refine lv_iload_n hx hb dL_key_2 rfl (lv_at hl 2 rfl) ?_
  refine wk_Vv (b := h0) (As := [.int (nI k), .int v]) (rest := []) (wc := [(h0, .inr (0, [.ref kw, .int kb, .int kr, .ref sc, .ref so, .ref tp, .int tl, .ref ct, .ref sr])), (kw, .inl (cI, 8, .inl K))]) (wr := []) (w1 := [(h0, .inr (0, [.ref kw, .int kb, .int (nI 0), .ref sc, .ref so, .ref tp, .int tl, .ref ct, .ref sr])), (kw, .inl (cI, 8, .inl (upd K k v)))]) (w2 := [(h0, .inr (0, [.ref kw, .int kb, .int (nI 0), .ref sc, .ref so, .ref tp, .int tl, .ref ct, .ref sr])), (kw, .inl (cI, 8, .inl (upd K k v)))]) (ci := 0) (q0 := 0) ⟨hx, hb, hml, hown, hts⟩ (c_X0_key1 l D cI _ h0 kw sc so tp ct sr kb kr tl k v K hk) (cwV 2 hts gL_key_X0_key rfl rfl rfl (by decide +kernel) ⟨Nat.le_of_ble_eq_true rfl, Nat.le_of_ble_eq_true rfl⟩) (fun _ _ _ _ h => h) (fun _ _ _ _ => trivial) hK hP hD hS hA rfl rfl [0, 1] [] rfl (by decide) rfl (by decide) (by decide) [0, 1] rfl (by decide) rfl hl.1 rfl (Nat.le_of_ble_eq_true rfl) dL_key_3 ⟨Nat.zero_le _, Nat.zero_le _⟩ (fun H locs hP hD hS => ?_)
  refine lv_goto (tgt := 12) hx hb dL_key_6 (by decide) ?_
  refine lv_iconst (v := nI 0) hx hb dL_key_12 (by decide) ?_
  exact W.iret (v := nI 0) hx hb hr (fun t ht hW => ⟨⟨_, (fun _ _ => 0), rfl, rfl, by rw [ht]; exact hP, va_K.moved hW.alike hK2, hD⟩, hS.F ht⟩) hS.2.2 dL_key_13
set_option maxHeartbeats 4000000 in
set_option maxRecDepth 100000 in
theorem c_L_key0 (l : Launch) (hlt : l.stackTraces = false) (D : va_G) (cI cJ : ClassId) (sa : Nat) (h0 kw sc so tp ct sr : Nat) (kb kr tl : Int32) (i v : Int32) (sz : Nat) (hbad : i < nI 0 ∨ (¬ i < nI 0 ∧ ¬ i < nI 8)) : Met l yL_key wsL_key ({ frames := 7, cells := 1, slots := 6, locals := 104 }) (va_Pc [.ref h0, .int i, .int v] (fun U => PW D [(cI, .int), (cJ, .long)] [(h0, .inr (0, [.ref kw, .int kb, .int kr, .ref sc, .ref so, .ref tp, .int tl, .ref ct, .ref sr]))] sz U ∧ thw "java/lang/IndexOutOfBoundsException" 41 "no such word of the key" sa (va_A [(h0, .inr (0, [.ref kw, .int kb, .int kr, .ref sc, .ref so, .ref tp, .int tl, .ref ct, .ref sr]))] sz) U U.heap)) (va_Qi (fun r9 (u : Nat → Nat → Int32) => r9 = nI 1) (fun u => BW D [(cI, .int), (cJ, .long)] (va_A [(h0, .inr (0, [.ref kw, .int kb, .int kr, .ref sc, .ref so, .ref tp, .int tl, .ref ct, .ref sr]))] sz) [(h0, .inr (0, [.ref kw, .int kb, .int kr, .ref sc, .ref so, .ref tp, .int tl, .ref ct, .ref sr]))]) (va_A [(h0, .inr (0, [.ref kw, .int kb, .int kr, .ref sc, .ref so, .ref tp, .int tl, .ref ct, .ref sr]))] sz)) 1 6 (va_A [(h0, .inr (0, [.ref kw, .int kb, .int kr, .ref sc, .ref so, .ref tp, .int tl, .ref ct, .ref sr]))] sz) := by
  refine va_MetW (cc := cL_key) (maxL := 4) (ret := (some .int)) (hh := [(0, 6, 9, 13)]) (by decide) rfl ?_
  intro p e s m args below meth c s₁ B hml hv
  obtain ⟨rfl, ⟨hsz, hP, hK2, hD0⟩, hth⟩ := hv
  have hK := hK2.sub (tys' := [(cI, .int)]) [0] rfl
  have hx := B.exec
  have hb := B.bytes
  have hr := B.returns
  have hts := atoms_spec (ws := wsL_key) B.pre
  have hown : s.vm.findClass RL = some m.cls := findClass_of_methodNamed B.named
  have hlocks := B.notSynchronized
  subst hsz
  have hD := hD0.self (sz := s.heap.size)
  generalize hAe : va_A [(h0, .inr (0, [.ref kw, .int kb, .int kr, .ref sc, .ref so, .ref tp, .int tl, .ref ct, .ref sr]))] s.heap.size = A at hth hD ⊢
  have hA : ∀ q : Nat, s.heap.size ≤ q → A q := fun q h => by rw [← hAe]; exact Or.inr h
  have hS : va_S A s.heap s.heap [] := va_S.rf
  have hl := lv_entry ([.ref h0, .int i, .int v]) (n := 4) (Nat.le_of_ble_eq_true rfl)
  rw [lg_entry_eq]
  generalize (lg_sl ([.ref h0, .int i, .int v]) ++ List.replicate (4 - (lg_sl ([.ref h0, .int i, .int v])).length) Slot.unset).toArray = ls at hl ⊢
  have hl : lv_has ls 4 [(0, .ref h0), (1, .int i), (2, .int v)] := hl
  refine lv_aload_n hx hb dL_key_0 rfl (lv_at hl 0 rfl) ?_
  refine lv_iload_n hx hb dL_key_1 rfl (lv_at hl 1 rfl) ?_
  refine lv_iload_n hx hb dL_key_2 rfl (lv_at hl 2 rfl) ?_
  refine wk_Vxv (b := h0) (As := [.int i, .int v]) (rest := []) (wc := [(h0, .inr (0, [.ref kw, .int kb, .int kr, .ref sc, .ref so, .ref tp, .int tl, .ref ct, .ref sr]))]) (wr := []) (ci := 0) (q0 := 0) ⟨hx, hb, hml, hown, hts⟩ (c_X0_key0 l hlt D cI sa h0 kw sc so tp ct sr kb kr tl i v _ hbad) (cwV 2 hts gL_key_X0_key rfl rfl rfl (by decide +kernel) ⟨Nat.le_of_ble_eq_true rfl, Nat.le_of_ble_eq_true rfl⟩) (fun V g mk a h => thw.call g mk a h) (fun hF V hU hW => hth.give hS hF hU hW) hK hP hD hS hA rfl rfl [0] [] rfl (by decide) rfl (by decide) (by decide) [0] rfl (by decide) rfl hl.1 rfl (Nat.le_of_ble_eq_true rfl) dL_key_3 ⟨Nat.le_of_ble_eq_true rfl, Nat.le_of_ble_eq_true rfl⟩ (fun ce q9 H locs hP hD hS hce hcv hcl => ?_)
  have hsp : c.exceptionTable.toList = tableOf [(0, 6, 9, 13)] := vx_table (x := yL_key) B (hts _ List.mem_cons_self)
  refine vx_catch (own := RL) (name := "java/lang/IndexOutOfBoundsException") hown [] ⟨0, 6, 9, 13⟩ [] hsp (fun z hz => absurd hz List.not_mem_nil) (by decide) (by decide) (hts (.classLink RL 13 "java/lang/IndexOutOfBoundsException") (by decide +kernel)) (va_Nw.use rfl hth.2.2.2.1) hce hcv hcl ?_
  refine lv_astore_n (lv' := [(3, .ref q9), (0, .ref h0), (1, .int i), (2, .int v)]) hx hb dL_key_9 rfl hl (by decide) rfl (fun ls hl => ?_)
  refine lv_iconst (v := nI 1) hx hb dL_key_10 (by decide) ?_
  exact W.iret (v := nI 1) hx hb hr (fun t ht hW => ⟨⟨_, (fun _ _ => 0), rfl, rfl, by rw [ht]; exact hP, va_K.moved hW.alike hK2, hD⟩, hS.F ht⟩) hS.2.2 dL_key_11
set_option maxHeartbeats 4000000 in
set_option maxRecDepth 100000 in
theorem c_L_size1 (l : Launch) (D : va_G) (cI cJ : ClassId) (h0 kw sc so tp ct sr : Nat) (kb kr tl : Int32) (k : Nat) (sz : Nat) (hk : k ≤ 32) : Met l yL_size wsL_size ({ frames := 1, cells := 0, slots := 0, locals := 21 }) (va_Pc [.ref h0, .int (nI k)] (fun U => PW D [(cI, .int), (cJ, .long)] [(h0, .inr (0, [.ref kw, .int kb, .int kr, .ref sc, .ref so, .ref tp, .int tl, .ref ct, .ref sr]))] sz U ∧ True)) (va_Qi (fun r9 (u : Nat → Nat → Int32) => r9 = nI 0) (fun u => BW D [(cI, .int), (cJ, .long)] (va_A [(h0, .inr (0, [.ref kw, .int kb, .int kr, .ref sc, .ref so, .ref tp, .int tl, .ref ct, .ref sr]))] sz) [(h0, .inr (0, [.ref kw, .int (nI k), .int (nI 0), .ref sc, .ref so, .ref tp, .int tl, .ref ct, .ref sr]))]) (va_A [(h0, .inr (0, [.ref kw, .int kb, .int kr, .ref sc, .ref so, .ref tp, .int tl, .ref ct, .ref sr]))] sz)) 0 0 (va_A [(h0, .inr (0, [.ref kw, .int kb, .int kr, .ref sc, .ref so, .ref tp, .int tl, .ref ct, .ref sr]))] sz) := by
  refine va_MetW (cc := cL_size) (maxL := 3) (ret := (some .int)) (hh := [(0, 5, 8, 19)]) (by decide) rfl ?_
  intro p e s m args below meth c s₁ B hml hv
  obtain ⟨rfl, ⟨hsz, hP, hK2, hD0⟩, -⟩ := hv
  have hK := hK2.sub (tys' := [(cI, .int)]) [0] rfl
  have hx := B.exec
  have hb := B.bytes
  have hr := B.returns
  have hts := atoms_spec (ws := wsL_size) B.pre
  have hown : s.vm.findClass RL = some m.cls := findClass_of_methodNamed B.named
  have hlocks := B.notSynchronized
  subst hsz
  have hD := hD0.self (sz := s.heap.size)
  generalize hAe : va_A [(h0, .inr (0, [.ref kw, .int kb, .int kr, .ref sc, .ref so, .ref tp, .int tl, .ref ct, .ref sr]))] s.heap.size = A at hD ⊢
  have hA : ∀ q : Nat, s.heap.size ≤ q → A q := fun q h => by rw [← hAe]; exact Or.inr h
  have hS : va_S A s.heap s.heap [] := va_S.rf
  have hl := lv_entry ([.ref h0, .int (nI k)]) (n := 3) (Nat.le_of_ble_eq_true rfl)
  rw [lg_entry_eq]
  generalize (lg_sl ([.ref h0, .int (nI k)]) ++ List.replicate (3 - (lg_sl ([.ref h0, .int (nI k)])).length) Slot.unset).toArray = ls at hl ⊢
  have hl : lv_has ls 3 [(0, .ref h0), (1, .int (nI k))] := hl
  refine lv_aload_n hx hb dL_size_0 rfl (lv_at hl 0 rfl) ?_
  refine lv_iload_n hx hb dL_size_1 rfl (lv_at hl 1 rfl) ?_
  refine wk_Vv (b := h0) (As := [.int (nI k)]) (rest := []) (wc := [(h0, .inr (0, [.ref kw, .int kb, .int kr, .ref sc, .ref so, .ref tp, .int tl, .ref ct, .ref sr]))]) (wr := []) (w1 := [(h0, .inr (0, [.ref kw, .int (nI k), .int (nI 0), .ref sc, .ref so, .ref tp, .int tl, .ref ct, .ref sr]))]) (w2 := [(h0, .inr (0, [.ref kw, .int (nI k), .int (nI 0), .ref sc, .ref so, .ref tp, .int tl, .ref ct, .ref sr]))]) (ci := 0) (q0 := 0) ⟨hx, hb, hml, hown, hts⟩ (c_X0_size1 l D cI _ h0 kw sc so tp ct sr kb kr tl k hk) (cwV 1 hts gL_size_X0_size rfl rfl rfl (by decide +kernel) ⟨Nat.le_of_ble_eq_true rfl, Nat.le_of_ble_eq_true rfl⟩) (fun _ _ _ _ h => h) (fun _ _ _ _ => trivial) hK hP hD hS hA rfl rfl [0] [] rfl (by decide) rfl (by decide) (by decide) [0] rfl (by decide) rfl hl.1 rfl (Nat.le_of_ble_eq_true rfl) dL_size_2 ⟨Nat.zero_le _, Nat.zero_le _⟩ (fun H locs hP hD hS => ?_)
  refine lv_goto (tgt := 11) hx hb dL_size_5 (by decide) ?_
  refine lv_iconst (v := nI 0) hx hb dL_size_11 (by decide) ?_
  exact W.iret (v := nI 0) hx hb hr (fun t ht hW => ⟨⟨_, (fun _ _ => 0), rfl, rfl, by rw [ht]; exact hP, va_K.moved hW.alike hK2, hD⟩, hS.F ht⟩) hS.2.2 dL_size_12
set_option maxHeartbeats 4000000 in
set_option maxRecDepth 100000 in
theorem c_L_size0 (l : Launch) (hlt : l.stackTraces = false) (D : va_G) (cI cJ : ClassId) (sa : Nat) (h0 kw sc so tp ct sr : Nat) (kb kr tl : Int32) (i : Int32) (sz : Nat) (hbad : i < nI 0 ∨ (¬ i < nI 0 ∧ ¬ i ≤ nI 32)) : Met l yL_size wsL_size ({ frames := 7, cells := 1, slots := 6, locals := 103 }) (va_Pc [.ref h0, .int i] (fun U => PW D [(cI, .int), (cJ, .long)] [(h0, .inr (0, [.ref kw, .int kb, .int kr, .ref sc, .ref so, .ref tp, .int tl, .ref ct, .ref sr]))] sz U ∧ thw "java/lang/IllegalArgumentException" 48 "a key has 0 to 32 bytes" sa (va_A [(h0, .inr (0, [.ref kw, .int kb, .int kr, .ref sc, .ref so, .ref tp, .int tl, .ref ct, .ref sr]))] sz) U U.heap)) (va_Qi (fun r9 (u : Nat → Nat → Int32) => r9 = nI 1) (fun u => BW D [(cI, .int), (cJ, .long)] (va_A [(h0, .inr (0, [.ref kw, .int kb, .int kr, .ref sc, .ref so, .ref tp, .int tl, .ref ct, .ref sr]))] sz) [(h0, .inr (0, [.ref kw, .int kb, .int kr, .ref sc, .ref so, .ref tp, .int tl, .ref ct, .ref sr]))]) (va_A [(h0, .inr (0, [.ref kw, .int kb, .int kr, .ref sc, .ref so, .ref tp, .int tl, .ref ct, .ref sr]))] sz)) 1 6 (va_A [(h0, .inr (0, [.ref kw, .int kb, .int kr, .ref sc, .ref so, .ref tp, .int tl, .ref ct, .ref sr]))] sz) := by
  refine va_MetW (cc := cL_size) (maxL := 3) (ret := (some .int)) (hh := [(0, 5, 8, 19)]) (by decide) rfl ?_
  intro p e s m args below meth c s₁ B hml hv
  obtain ⟨rfl, ⟨hsz, hP, hK2, hD0⟩, hth⟩ := hv
  have hK := hK2.sub (tys' := [(cI, .int)]) [0] rfl
  have hx := B.exec
  have hb := B.bytes
  have hr := B.returns
  have hts := atoms_spec (ws := wsL_size) B.pre
  have hown : s.vm.findClass RL = some m.cls := findClass_of_methodNamed B.named
  have hlocks := B.notSynchronized
  subst hsz
  have hD := hD0.self (sz := s.heap.size)
  generalize hAe : va_A [(h0, .inr (0, [.ref kw, .int kb, .int kr, .ref sc, .ref so, .ref tp, .int tl, .ref ct, .ref sr]))] s.heap.size = A at hth hD ⊢
  have hA : ∀ q : Nat, s.heap.size ≤ q → A q := fun q h => by rw [← hAe]; exact Or.inr h
  have hS : va_S A s.heap s.heap [] := va_S.rf
  have hl := lv_entry ([.ref h0, .int i]) (n := 3) (Nat.le_of_ble_eq_true rfl)
  rw [lg_entry_eq]
  generalize (lg_sl ([.ref h0, .int i]) ++ List.replicate (3 - (lg_sl ([.ref h0, .int i])).length) Slot.unset).toArray = ls at hl ⊢
  have hl : lv_has ls 3 [(0, .ref h0), (1, .int i)] := hl
  refine lv_aload_n hx hb dL_size_0 rfl (lv_at hl 0 rfl) ?_
  refine lv_iload_n hx hb dL_size_1 rfl (lv_at hl 1 rfl) ?_
  refine wk_Vxv (b := h0) (As := [.int i]) (rest := []) (wc := [(h0, .inr (0, [.ref kw, .int kb, .int kr, .ref sc, .ref so, .ref tp, .int tl, .ref ct, .ref sr]))]) (wr := []) (ci := 0) (q0 := 0) ⟨hx, hb, hml, hown, hts⟩ (c_X0_size0 l hlt D cI sa h0 kw sc so tp ct sr kb kr tl i _ hbad) (cwV 1 hts gL_size_X0_size rfl rfl rfl (by decide +kernel) ⟨Nat.le_of_ble_eq_true rfl, Nat.le_of_ble_eq_true rfl⟩) (fun V g mk a h => thw.call g mk a h) (fun hF V hU hW => hth.give hS hF hU hW) hK hP hD hS hA rfl rfl [0] [] rfl (by decide) rfl (by decide) (by decide) [0] rfl (by decide) rfl hl.1 rfl (Nat.le_of_ble_eq_true rfl) dL_size_2 ⟨Nat.le_of_ble_eq_true rfl, Nat.le_of_ble_eq_true rfl⟩ (fun ce q9 H locs hP hD hS hce hcv hcl => ?_)
  have hsp : c.exceptionTable.toList = tableOf [(0, 5, 8, 19)] := vx_table (x := yL_size) B (hts _ List.mem_cons_self)
  refine vx_catch (own := RL) (name := "java/lang/IllegalArgumentException") hown [] ⟨0, 5, 8, 19⟩ [] hsp (fun z hz => absurd hz List.not_mem_nil) (by decide) (by decide) (hts (.classLink RL 19 "java/lang/IllegalArgumentException") (by decide +kernel)) (va_Nw.use rfl hth.2.2.2.1) hce hcv hcl ?_
  refine lv_astore_n (lv' := [(2, .ref q9), (0, .ref h0), (1, .int i)]) hx hb dL_size_8 rfl hl (by decide) rfl (fun ls hl => ?_)
  refine lv_iconst (v := nI 1) hx hb dL_size_9 (by decide) ?_
  exact W.iret (v := nI 1) hx hb hr (fun t ht hW => ⟨⟨_, (fun _ _ => 0), rfl, rfl, by rw [ht]; exact hP, va_K.moved hW.alike hK2, hD⟩, hS.F ht⟩) hS.2.2 dL_size_10
set_option maxHeartbeats 4000000 in
set_option maxRecDepth 100000 in
theorem c_L_start1 (l : Launch) (D : va_G) (cI cJ : ClassId) (h0 kw sc so tp ct sr : Nat) (kb kr tl : Int32) (k : Nat) (v : Int32) (S : Nat → Int32) (sz : Nat) (hk : k < 4) : Met l yL_start wsL_start ({ frames := 1, cells := 0, slots := 0, locals := 22 }) (va_Pc [.ref h0, .int (nI k), .int v] (fun U => PW D [(cI, .int), (cJ, .long)] [(h0, .inr (0, [.ref kw, .int kb, .int kr, .ref sc, .ref so, .ref tp, .int tl, .ref ct, .ref sr])), (so, .inl (cI, 4, .inl S))] sz U ∧ True)) (va_Qi (fun r9 (u : Nat → Nat → Int32) => r9 = nI 0) (fun u => BW D [(cI, .int), (cJ, .long)] (va_A [(h0, .inr (0, [.ref kw, .int kb, .int kr, .ref sc, .ref so, .ref tp, .int tl, .ref ct, .ref sr])), (so, .inl (cI, 4, .inl S))] sz) [(h0, .inr (0, [.ref kw, .int kb, .int kr, .ref sc, .ref so, .ref tp, .int tl, .ref ct, .ref sr])), (so, .inl (cI, 4, .inl (upd S k v)))]) (va_A [(h0, .inr (0, [.ref kw, .int kb, .int kr, .ref sc, .ref so, .ref tp, .int tl, .ref ct, .ref sr])), (so, .inl (cI, 4, .inl S))] sz)) 0 0 (va_A [(h0, .inr (0, [.ref kw, .int kb, .int kr, .ref sc, .ref so, .ref tp, .int tl, .ref ct, .ref sr])), (so, .inl (cI, 4, .inl S))] sz) := by
  refine va_MetW (cc := cL_start) (maxL := 4) (ret := (some .int)) (hh := [(0, 6, 9, 13)]) (by decide) rfl ?_
  intro p e s m args below meth c s₁ B hml hv
  obtain ⟨rfl, ⟨hsz, hP, hK2, hD0⟩, -⟩ := hv
  have hK := hK2.sub (tys' := [(cI, .int)]) [0] rfl
  have hx := B.exec
  have hb := B.bytes
  have hr := B.returns
  have hts := atoms_spec (ws := wsL_start) B.pre
  have hown : s.vm.findClass RL = some m.cls := findClass_of_methodNamed B.named
  have hlocks := B.notSynchronized
  subst hsz
  have hD := hD0.self (sz := s.heap.size)
  generalize hAe : va_A [(h0, .inr (0, [.ref kw, .int kb, .int kr, .ref sc, .ref so, .ref tp, .int tl, .ref ct, .ref sr])), (so, .inl (cI, 4, .inl S))] s.heap.size = A at hD ⊢
  have hA : ∀ q : Nat, s.heap.size ≤ q → A q := fun q h => by rw [← hAe]; exact Or.inr h
  have hS : va_S A s.heap s.heap [] := va_S.rf
  have hl := lv_entry ([.ref h0, .int (nI k), .int v]) (n := 4) (Nat.le_of_ble_eq_true rfl)
  rw [lg_entry_eq]
  generalize (lg_sl ([.ref h0, .int (nI k), .int v]) ++ List.replicate (4 - (lg_sl ([.ref h0, .int (nI k), .int v])).length) Slot.unset).toArray = ls at hl ⊢
  have hl : lv_has ls 4 [(0, .ref h0), (1, .int (nI k)), (2, .int v)] := hl
  refine lv_aload_n hx hb dL_start_0 rfl (lv_at hl 0 rfl) ?_
  refine lv_iload_n hx hb dL_start_1 rfl (lv_at hl 1 rfl) ?_
  refine lv_iload_n hx hb dL_start_2 rfl (lv_at hl 2 rfl) ?_
  refine wk_Vv (b := h0) (As := [.int (nI k), .int v]) (rest := []) (wc := [(h0, .inr (0, [.ref kw, .int kb, .int kr, .ref sc, .ref so, .ref tp, .int tl, .ref ct, .ref sr])), (so, .inl (cI, 4, .inl S))]) (wr := []) (w1 := [(h0, .inr (0, [.ref kw, .int kb, .int kr, .ref sc, .ref so, .ref tp, .int tl, .ref ct, .ref sr])), (so, .inl (cI, 4, .inl (upd S k v)))]) (w2 := [(h0, .inr (0, [.ref kw, .int kb, .int kr, .ref sc, .ref so, .ref tp, .int tl, .ref ct, .ref sr])), (so, .inl (cI, 4, .inl (upd S k v)))]) (ci := 0) (q0 := 0) ⟨hx, hb, hml, hown, hts⟩ (c_X0_start1 l D cI _ h0 kw sc so tp ct sr kb kr tl k v S hk) (cwV 2 hts gL_start_X0_start rfl rfl rfl (by decide +kernel) ⟨Nat.le_of_ble_eq_true rfl, Nat.le_of_ble_eq_true rfl⟩) (fun _ _ _ _ h => h) (fun _ _ _ _ => trivial) hK hP hD hS hA rfl rfl [0, 1] [] rfl (by decide) rfl (by decide) (by decide) [0, 1] rfl (by decide) rfl hl.1 rfl (Nat.le_of_ble_eq_true rfl) dL_start_3 ⟨Nat.zero_le _, Nat.zero_le _⟩ (fun H locs hP hD hS => ?_)
  refine lv_goto (tgt := 12) hx hb dL_start_6 (by decide) ?_
  refine lv_iconst (v := nI 0) hx hb dL_start_12 (by decide) ?_
  exact W.iret (v := nI 0) hx hb hr (fun t ht hW => ⟨⟨_, (fun _ _ => 0), rfl, rfl, by rw [ht]; exact hP, va_K.moved hW.alike hK2, hD⟩, hS.F ht⟩) hS.2.2 dL_start_13
set_option maxHeartbeats 4000000 in
set_option maxRecDepth 100000 in
theorem c_L_start0 (l : Launch) (hlt : l.stackTraces = false) (D : va_G) (cI cJ : ClassId) (sa : Nat) (h0 kw sc so tp ct sr : Nat) (kb kr tl : Int32) (i v : Int32) (sz : Nat) (hbad : i < nI 0 ∨ (¬ i < nI 0 ∧ ¬ i < nI 4)) : Met l yL_start wsL_start ({ frames := 7, cells := 1, slots := 6, locals := 104 }) (va_Pc [.ref h0, .int i, .int v] (fun U => PW D [(cI, .int), (cJ, .long)] [(h0, .inr (0, [.ref kw, .int kb, .int kr, .ref sc, .ref so, .ref tp, .int tl, .ref ct, .ref sr]))] sz U ∧ thw "java/lang/IndexOutOfBoundsException" 86 "no such word of the start" sa (va_A [(h0, .inr (0, [.ref kw, .int kb, .int kr, .ref sc, .ref so, .ref tp, .int tl, .ref ct, .ref sr]))] sz) U U.heap)) (va_Qi (fun r9 (u : Nat → Nat → Int32) => r9 = nI 1) (fun u => BW D [(cI, .int), (cJ, .long)] (va_A [(h0, .inr (0, [.ref kw, .int kb, .int kr, .ref sc, .ref so, .ref tp, .int tl, .ref ct, .ref sr]))] sz) [(h0, .inr (0, [.ref kw, .int kb, .int kr, .ref sc, .ref so, .ref tp, .int tl, .ref ct, .ref sr]))]) (va_A [(h0, .inr (0, [.ref kw, .int kb, .int kr, .ref sc, .ref so, .ref tp, .int tl, .ref ct, .ref sr]))] sz)) 1 6 (va_A [(h0, .inr (0, [.ref kw, .int kb, .int kr, .ref sc, .ref so, .ref tp, .int tl, .ref ct, .ref sr]))] sz) := by
  refine va_MetW (cc := cL_start) (maxL := 4) (ret := (some .int)) (hh := [(0, 6, 9, 13)]) (by decide) rfl ?_
  intro p e s m args below meth c s₁ B hml hv
  obtain ⟨rfl, ⟨hsz, hP, hK2, hD0⟩, hth⟩ := hv
  have hK := hK2.sub (tys' := [(cI, .int)]) [0] rfl
  have hx := B.exec
  have hb := B.bytes
  have hr := B.returns
  have hts := atoms_spec (ws := wsL_start) B.pre
  have hown : s.vm.findClass RL = some m.cls := findClass_of_methodNamed B.named
  have hlocks := B.notSynchronized
  subst hsz
  have hD := hD0.self (sz := s.heap.size)
  generalize hAe : va_A [(h0, .inr (0, [.ref kw, .int kb, .int kr, .ref sc, .ref so, .ref tp, .int tl, .ref ct, .ref sr]))] s.heap.size = A at hth hD ⊢
  have hA : ∀ q : Nat, s.heap.size ≤ q → A q := fun q h => by rw [← hAe]; exact Or.inr h
  have hS : va_S A s.heap s.heap [] := va_S.rf
  have hl := lv_entry ([.ref h0, .int i, .int v]) (n := 4) (Nat.le_of_ble_eq_true rfl)
  rw [lg_entry_eq]
  generalize (lg_sl ([.ref h0, .int i, .int v]) ++ List.replicate (4 - (lg_sl ([.ref h0, .int i, .int v])).length) Slot.unset).toArray = ls at hl ⊢
  have hl : lv_has ls 4 [(0, .ref h0), (1, .int i), (2, .int v)] := hl
  refine lv_aload_n hx hb dL_start_0 rfl (lv_at hl 0 rfl) ?_
  refine lv_iload_n hx hb dL_start_1 rfl (lv_at hl 1 rfl) ?_
  refine lv_iload_n hx hb dL_start_2 rfl (lv_at hl 2 rfl) ?_
  refine wk_Vxv (b := h0) (As := [.int i, .int v]) (rest := []) (wc := [(h0, .inr (0, [.ref kw, .int kb, .int kr, .ref sc, .ref so, .ref tp, .int tl, .ref ct, .ref sr]))]) (wr := []) (ci := 0) (q0 := 0) ⟨hx, hb, hml, hown, hts⟩ (c_X0_start0 l hlt D cI sa h0 kw sc so tp ct sr kb kr tl i v _ hbad) (cwV 2 hts gL_start_X0_start rfl rfl rfl (by decide +kernel) ⟨Nat.le_of_ble_eq_true rfl, Nat.le_of_ble_eq_true rfl⟩) (fun V g mk a h => thw.call g mk a h) (fun hF V hU hW => hth.give hS hF hU hW) hK hP hD hS hA rfl rfl [0] [] rfl (by decide) rfl (by decide) (by decide) [0] rfl (by decide) rfl hl.1 rfl (Nat.le_of_ble_eq_true rfl) dL_start_3 ⟨Nat.le_of_ble_eq_true rfl, Nat.le_of_ble_eq_true rfl⟩ (fun ce q9 H locs hP hD hS hce hcv hcl => ?_)
  have hsp : c.exceptionTable.toList = tableOf [(0, 6, 9, 13)] := vx_table (x := yL_start) B (hts _ List.mem_cons_self)
  refine vx_catch (own := RL) (name := "java/lang/IndexOutOfBoundsException") hown [] ⟨0, 6, 9, 13⟩ [] hsp (fun z hz => absurd hz List.not_mem_nil) (by decide) (by decide) (hts (.classLink RL 13 "java/lang/IndexOutOfBoundsException") (by decide +kernel)) (va_Nw.use rfl hth.2.2.2.1) hce hcv hcl ?_
  refine lv_astore_n (lv' := [(3, .ref q9), (0, .ref h0), (1, .int i), (2, .int v)]) hx hb dL_start_9 rfl hl (by decide) rfl (fun ls hl => ?_)
  refine lv_iconst (v := nI 1) hx hb dL_start_10 (by decide) ?_
  exact W.iret (v := nI 1) hx hb hr (fun t ht hW => ⟨⟨_, (fun _ _ => 0), rfl, rfl, by rw [ht]; exact hP, va_K.moved hW.alike hK2, hD⟩, hS.F ht⟩) hS.2.2 dL_start_11
set_option maxHeartbeats 4000000 in
set_option maxRecDepth 100000 in
theorem c_L_round1 (l : Launch) (D : va_G) (cI cJ : ClassId) (h0 kw sc so tp ct sr oo : Nat) (kb tl : Int32) (r j : Nat) (F : Nat → Int32) (g : Nat → Int64) (sz : Nat) (hr9 : r ≤ 32) (hj : j ≤ 3) : Met l yL_round wsL_round ({ frames := 2, cells := 0, slots := 0, locals := 42 }) (va_Pc [.ref h0, .int (nI r), .int (nI j), .ref oo] (fun U => PW D [(cI, .int), (cJ, .long)] [(h0, .inr (0, [.ref kw, .int kb, .int (nI 1), .ref sc, .ref so, .ref tp, .int tl, .ref ct, .ref sr])), (sc, .inl (cI, 140, .inl F)), (oo, .inl (cJ, 1, .inr (.inl g)))] sz U ∧ True)) (va_Qi (fun r9 (u : Nat → Nat → Int32) => r9 = nI 0) (fun u => BW D [(cI, .int), (cJ, .long)] (va_A [(h0, .inr (0, [.ref kw, .int kb, .int (nI 1), .ref sc, .ref so, .ref tp, .int tl, .ref ct, .ref sr])), (sc, .inl (cI, 140, .inl F)), (oo, .inl (cJ, 1, .inr (.inl g)))] sz) [(h0, .inr (0, [.ref kw, .int kb, .int (nI 1), .ref sc, .ref so, .ref tp, .int tl, .ref ct, .ref sr])), (sc, .inl (cI, 140, .inl F)), (oo, .inl (cJ, 1, .inr (.inl (vp_updL g 0 (F (8 + 4 * r + j)).toInt64))))]) (va_A [(h0, .inr (0, [.ref kw, .int kb, .int (nI 1), .ref sc, .ref so, .ref tp, .int tl, .ref ct, .ref sr])), (sc, .inl (cI, 140, .inl F)), (oo, .inl (cJ, 1, .inr (.inl g)))] sz)) 0 0 (va_A [(h0, .inr (0, [.ref kw, .int kb, .int (nI 1), .ref sc, .ref so, .ref tp, .int tl, .ref ct, .ref sr])), (sc, .inl (cI, 140, .inl F)), (oo, .inl (cJ, 1, .inr (.inl g)))] sz) := by
  refine va_MetW (cc := cL_round) (maxL := 5) (ret := (some .int)) (hh := [(0, 10, 13, 13), (0, 10, 17, 25)]) (by decide) rfl ?_
  intro p e s m args below meth c s₁ B hml hv
  obtain ⟨rfl, ⟨hsz, hP, hK2, hD0⟩, -⟩ := hv
  have hK := hK2.sub (tys' := [(cI, .int)]) [0] rfl
  have hx := B.exec
  have hb := B.bytes
  have hr := B.returns
  have hts := atoms_spec (ws := wsL_round) B.pre
  have hown : s.vm.findClass RL = some m.cls := findClass_of_methodNamed B.named
  have hlocks := B.notSynchronized
  subst hsz
  have hD := hD0.self (sz := s.heap.size)
  generalize hAe : va_A [(h0, .inr (0, [.ref kw, .int kb, .int (nI 1), .ref sc, .ref so, .ref tp, .int tl, .ref ct, .ref sr])), (sc, .inl (cI, 140, .inl F)), (oo, .inl (cJ, 1, .inr (.inl g)))] s.heap.size = A at hD ⊢
  have hA : ∀ q : Nat, s.heap.size ≤ q → A q := fun q h => by rw [← hAe]; exact Or.inr h
  have hS : va_S A s.heap s.heap [] := va_S.rf
  have hl := lv_entry ([.ref h0, .int (nI r), .int (nI j), .ref oo]) (n := 5) (Nat.le_of_ble_eq_true rfl)
  rw [lg_entry_eq]
  generalize (lg_sl ([.ref h0, .int (nI r), .int (nI j), .ref oo]) ++ List.replicate (5 - (lg_sl ([.ref h0, .int (nI r), .int (nI j), .ref oo])).length) Slot.unset).toArray = ls at hl ⊢
  have hl : lv_has ls 5 [(0, .ref h0), (1, .int (nI r)), (2, .int (nI j)), (3, .ref oo)] := hl
  refine lv_aload_n hx hb dL_round_0 rfl (lv_at hl 3 rfl) ?_
  refine lv_iconst (v := nI 0) hx hb dL_round_1 (by decide) ?_
  refine lv_aload_n hx hb dL_round_2 rfl (lv_at hl 0 rfl) ?_
  refine lv_iload_n hx hb dL_round_3 rfl (lv_at hl 1 rfl) ?_
  refine lv_iload_n hx hb dL_round_4 rfl (lv_at hl 2 rfl) ?_
  refine wk_VI (b := h0) (As := [.int (nI r), .int (nI j)]) (rest := [.int (nI 0), .ref oo]) (wc := [(h0, .inr (0, [.ref kw, .int kb, .int (nI 1), .ref sc, .ref so, .ref tp, .int tl, .ref ct, .ref sr])), (sc, .inl (cI, 140, .inl F))]) (wr := [(oo, .inl (cJ, 1, .inr (.inl g)))]) (w1 := fun (u1 : Nat → Nat → Int32) => [(h0, .inr (0, [.ref kw, .int kb, .int (nI 1), .ref sc, .ref so, .ref tp, .int tl, .ref ct, .ref sr])), (sc, .inl (cI, 140, .inl F))]) (w2 := fun (u1 : Nat → Nat → Int32) => [(h0, .inr (0, [.ref kw, .int kb, .int (nI 1), .ref sc, .ref so, .ref tp, .int tl, .ref ct, .ref sr])), (sc, .inl (cI, 140, .inl F)), (oo, .inl (cJ, 1, .inr (.inl g)))]) (ci := 0) (q0 := 0) ⟨hx, hb, hml, hown, hts⟩ (c_X0_round1 l D cI _ h0 kw sc so tp ct sr kb tl r j F hr9 hj) (cwV 2 hts gL_round_X0_round rfl rfl rfl (by decide +kernel) ⟨Nat.le_of_ble_eq_true rfl, Nat.le_of_ble_eq_true rfl⟩) (fun _ _ _ _ h => h) (fun _ _ _ _ => trivial) hK hP hD hS hA rfl rfl [0, 1] [2] rfl (by decide) rfl (by decide) (by decide) [1, 2, 0] (fun _ => rfl) (by decide) rfl hl.1 rfl (Nat.le_of_ble_eq_true rfl) dL_round_5 ⟨Nat.zero_le _, Nat.zero_le _⟩ (fun zu1 u1 H locs hu1 hP hD hS => ?_)
  have hP : va_P D vwCl [(h0, .inr (0, [.ref kw, .int kb, .int (nI 1), .ref sc, .ref so, .ref tp, .int tl, .ref ct, .ref sr])), (sc, .inl (cI, 140, .inl F)), (oo, .inl (cJ, 1, .inr (.inl g)))] H := hP
  have hD : va_D A [(h0, .inr (0, [.ref kw, .int kb, .int (nI 1), .ref sc, .ref so, .ref tp, .int tl, .ref ct, .ref sr])), (sc, .inl (cI, 140, .inl F)), (oo, .inl (cJ, 1, .inr (.inl g)))] := hD
  refine wk_i (y := F (8 + 4 * r + j)) hu1 ?_
  refine lv_i2l (v := (F (8 + 4 * r + j)).toInt64) hx hb dL_round_8 rfl ?_
  refine va_last hx hb hK2 hP hD hS 2 1 rfl rfl (i := nI 0) (x := (F (8 + 4 * r + j)).toInt64) (vp_in_nI (by decide) (by decide)) dL_round_9 (fun H locs hP hD hS => ?_)
  have hP : va_P D vwCl [(h0, .inr (0, [.ref kw, .int kb, .int (nI 1), .ref sc, .ref so, .ref tp, .int tl, .ref ct, .ref sr])), (sc, .inl (cI, 140, .inl F)), (oo, .inl (cJ, 1, .inr (.inl (vp_updL g 0 ((F (8 + 4 * r + j)).toInt64)))))] H := hP
  have hD : va_D A [(h0, .inr (0, [.ref kw, .int kb, .int (nI 1), .ref sc, .ref so, .ref tp, .int tl, .ref ct, .ref sr])), (sc, .inl (cI, 140, .inl F)), (oo, .inl (cJ, 1, .inr (.inl (vp_updL g 0 ((F (8 + 4 * r + j)).toInt64)))))] := hD
  refine lv_goto (tgt := 21) hx hb dL_round_10 (by decide) ?_
  refine lv_iconst (v := nI 0) hx hb dL_round_21 (by decide) ?_
  exact W.iret (v := nI 0) hx hb hr (fun t ht hW => ⟨⟨_, (fun _ _ => 0), rfl, rfl, by rw [ht]; exact hP, va_K.moved hW.alike hK2, hD⟩, hS.F ht⟩) hS.2.2 dL_round_22
set_option maxHeartbeats 4000000 in
set_option maxRecDepth 100000 in
theorem c_L_round0 (l : Launch) (hlt : l.stackTraces = false) (D : va_G) (cI cJ : ClassId) (sa : Nat) (h0 kw sc so tp ct sr oo : Nat) (kb kr tl : Int32) (i j : Int32) (g : Nat → Int64) (sz : Nat) (hbad : i < nI 0 ∨ (¬ i < nI 0 ∧ nI 32 < i)) : Met l yL_round wsL_round ({ frames := 8, cells := 1, slots := 6, locals := 134 }) (va_Pc [.ref h0, .int i, .int j, .ref oo] (fun U => PW D [(cI, .int), (cJ, .long)] [(h0, .inr (0, [.ref kw, .int kb, .int kr, .ref sc, .ref so, .ref tp, .int tl, .ref ct, .ref sr])), (oo, .inl (cJ, 1, .inr (.inl g)))] sz U ∧ thw "java/lang/IndexOutOfBoundsException" 71 "no such word of a round key" sa (va_A [(h0, .inr (0, [.ref kw, .int kb, .int kr, .ref sc, .ref so, .ref tp, .int tl, .ref ct, .ref sr])), (oo, .inl (cJ, 1, .inr (.inl g)))] sz) U U.heap)) (va_Qi (fun r9 (u : Nat → Nat → Int32) => r9 = nI 1) (fun u => BW D [(cI, .int), (cJ, .long)] (va_A [(h0, .inr (0, [.ref kw, .int kb, .int kr, .ref sc, .ref so, .ref tp, .int tl, .ref ct, .ref sr])), (oo, .inl (cJ, 1, .inr (.inl g)))] sz) [(h0, .inr (0, [.ref kw, .int kb, .int kr, .ref sc, .ref so, .ref tp, .int tl, .ref ct, .ref sr])), (oo, .inl (cJ, 1, .inr (.inl g)))]) (va_A [(h0, .inr (0, [.ref kw, .int kb, .int kr, .ref sc, .ref so, .ref tp, .int tl, .ref ct, .ref sr])), (oo, .inl (cJ, 1, .inr (.inl g)))] sz)) 1 6 (va_A [(h0, .inr (0, [.ref kw, .int kb, .int kr, .ref sc, .ref so, .ref tp, .int tl, .ref ct, .ref sr])), (oo, .inl (cJ, 1, .inr (.inl g)))] sz) := by
  refine va_MetW (cc := cL_round) (maxL := 5) (ret := (some .int)) (hh := [(0, 10, 13, 13), (0, 10, 17, 25)]) (by decide) rfl ?_
  intro p e s m args below meth c s₁ B hml hv
  obtain ⟨rfl, ⟨hsz, hP, hK2, hD0⟩, hth⟩ := hv
  have hK := hK2.sub (tys' := [(cI, .int)]) [0] rfl
  have hx := B.exec
  have hb := B.bytes
  have hr := B.returns
  have hts := atoms_spec (ws := wsL_round) B.pre
  have hown : s.vm.findClass RL = some m.cls := findClass_of_methodNamed B.named
  have hlocks := B.notSynchronized
  subst hsz
  have hD := hD0.self (sz := s.heap.size)
  generalize hAe : va_A [(h0, .inr (0, [.ref kw, .int kb, .int kr, .ref sc, .ref so, .ref tp, .int tl, .ref ct, .ref sr])), (oo, .inl (cJ, 1, .inr (.inl g)))] s.heap.size = A at hth hD ⊢
  have hA : ∀ q : Nat, s.heap.size ≤ q → A q := fun q h => by rw [← hAe]; exact Or.inr h
  have hS : va_S A s.heap s.heap [] := va_S.rf
  have hl := lv_entry ([.ref h0, .int i, .int j, .ref oo]) (n := 5) (Nat.le_of_ble_eq_true rfl)
  rw [lg_entry_eq]
  generalize (lg_sl ([.ref h0, .int i, .int j, .ref oo]) ++ List.replicate (5 - (lg_sl ([.ref h0, .int i, .int j, .ref oo])).length) Slot.unset).toArray = ls at hl ⊢
  have hl : lv_has ls 5 [(0, .ref h0), (1, .int i), (2, .int j), (3, .ref oo)] := hl
  refine lv_aload_n hx hb dL_round_0 rfl (lv_at hl 3 rfl) ?_
  refine lv_iconst (v := nI 0) hx hb dL_round_1 (by decide) ?_
  refine lv_aload_n hx hb dL_round_2 rfl (lv_at hl 0 rfl) ?_
  refine lv_iload_n hx hb dL_round_3 rfl (lv_at hl 1 rfl) ?_
  refine lv_iload_n hx hb dL_round_4 rfl (lv_at hl 2 rfl) ?_
  refine wk_Vxi (b := h0) (As := [.int i, .int j]) (rest := [.int (nI 0), .ref oo]) (wc := [(h0, .inr (0, [.ref kw, .int kb, .int kr, .ref sc, .ref so, .ref tp, .int tl, .ref ct, .ref sr]))]) (wr := [(oo, .inl (cJ, 1, .inr (.inl g)))]) (ci := 0) (q0 := 0) ⟨hx, hb, hml, hown, hts⟩ (c_X0_round0 l hlt D cI sa h0 kw sc so tp ct sr kb kr tl i j _ hbad) (cwV 2 hts gL_round_X0_round rfl rfl rfl (by decide +kernel) ⟨Nat.le_of_ble_eq_true rfl, Nat.le_of_ble_eq_true rfl⟩) (fun V g mk a h => thw.call g mk a h) (fun hF V hU hW => hth.give hS hF hU hW) hK hP hD hS hA rfl rfl [0] [1] rfl (by decide) rfl (by decide) (by decide) [1, 0] rfl (by decide) rfl hl.1 rfl (Nat.le_of_ble_eq_true rfl) dL_round_5 ⟨Nat.le_of_ble_eq_true rfl, Nat.le_of_ble_eq_true rfl⟩ (fun ce q9 H locs hP hD hS hce hcv hcl => ?_)
  have hsp : c.exceptionTable.toList = tableOf [(0, 10, 13, 13), (0, 10, 17, 25)] := vx_table (x := yL_round) B (hts _ List.mem_cons_self)
  refine vx_catch (own := RL) (name := "java/lang/IndexOutOfBoundsException") hown [] ⟨0, 10, 13, 13⟩ [⟨0, 10, 17, 25⟩] hsp (fun z hz => absurd hz List.not_mem_nil) (by decide) (by decide) (hts (.classLink RL 13 "java/lang/IndexOutOfBoundsException") (by decide +kernel)) (va_Nw.use rfl hth.2.2.2.1) hce hcv hcl ?_
  refine lv_astore (lv' := [(4, .ref q9), (0, .ref h0), (1, .int i), (2, .int j), (3, .ref oo)]) hx hb dL_round_13 hl (by decide) rfl (fun ls hl => ?_)
  refine lv_iconst (v := nI 1) hx hb dL_round_15 (by decide) ?_
  exact W.iret (v := nI 1) hx hb hr (fun t ht hW => ⟨⟨_, (fun _ _ => 0), rfl, rfl, by rw [ht]; exact hP, va_K.moved hW.alike hK2, hD⟩, hS.F ht⟩) hS.2.2 dL_round_16
set_option maxHeartbeats 4000000 in
set_option maxRecDepth 100000 in
theorem c_L_round0j (l : Launch) (hlt : l.stackTraces = false) (D : va_G) (cI cJ : ClassId) (sa : Nat) (h0 kw sc so tp ct sr oo : Nat) (kb kr tl : Int32) (r : Nat) (j : Int32) (g : Nat → Int64) (sz : Nat) (hr9 : r ≤ 32) (hbad : j < nI 0 ∨ (¬ j < nI 0 ∧ ¬ j < nI 4)) : Met l yL_round wsL_round ({ frames := 8, cells := 1, slots := 6, locals := 134 }) (va_Pc [.ref h0, .int (nI r), .int j, .ref oo] (fun U => PW D [(cI, .int), (cJ, .long)] [(h0, .inr (0, [.ref kw, .int kb, .int kr, .ref sc, .ref so, .ref tp, .int tl, .ref ct, .ref sr])), (oo, .inl (cJ, 1, .inr (.inl g)))] sz U ∧ thw "java/lang/IndexOutOfBoundsException" 71 "no such word of a round key" sa (va_A [(h0, .inr (0, [.ref kw, .int kb, .int kr, .ref sc, .ref so, .ref tp, .int tl, .ref ct, .ref sr])), (oo, .inl (cJ, 1, .inr (.inl g)))] sz) U U.heap)) (va_Qi (fun r9 (u : Nat → Nat → Int32) => r9 = nI 1) (fun u => BW D [(cI, .int), (cJ, .long)] (va_A [(h0, .inr (0, [.ref kw, .int kb, .int kr, .ref sc, .ref so, .ref tp, .int tl, .ref ct, .ref sr])), (oo, .inl (cJ, 1, .inr (.inl g)))] sz) [(h0, .inr (0, [.ref kw, .int kb, .int kr, .ref sc, .ref so, .ref tp, .int tl, .ref ct, .ref sr])), (oo, .inl (cJ, 1, .inr (.inl g)))]) (va_A [(h0, .inr (0, [.ref kw, .int kb, .int kr, .ref sc, .ref so, .ref tp, .int tl, .ref ct, .ref sr])), (oo, .inl (cJ, 1, .inr (.inl g)))] sz)) 1 6 (va_A [(h0, .inr (0, [.ref kw, .int kb, .int kr, .ref sc, .ref so, .ref tp, .int tl, .ref ct, .ref sr])), (oo, .inl (cJ, 1, .inr (.inl g)))] sz) := by
  refine va_MetW (cc := cL_round) (maxL := 5) (ret := (some .int)) (hh := [(0, 10, 13, 13), (0, 10, 17, 25)]) (by decide) rfl ?_
  intro p e s m args below meth c s₁ B hml hv
  obtain ⟨rfl, ⟨hsz, hP, hK2, hD0⟩, hth⟩ := hv
  have hK := hK2.sub (tys' := [(cI, .int)]) [0] rfl
  have hx := B.exec
  have hb := B.bytes
  have hr := B.returns
  have hts := atoms_spec (ws := wsL_round) B.pre
  have hown : s.vm.findClass RL = some m.cls := findClass_of_methodNamed B.named
  have hlocks := B.notSynchronized
  subst hsz
  have hD := hD0.self (sz := s.heap.size)
  generalize hAe : va_A [(h0, .inr (0, [.ref kw, .int kb, .int kr, .ref sc, .ref so, .ref tp, .int tl, .ref ct, .ref sr])), (oo, .inl (cJ, 1, .inr (.inl g)))] s.heap.size = A at hth hD ⊢
  have hA : ∀ q : Nat, s.heap.size ≤ q → A q := fun q h => by rw [← hAe]; exact Or.inr h
  have hS : va_S A s.heap s.heap [] := va_S.rf
  have hl := lv_entry ([.ref h0, .int (nI r), .int j, .ref oo]) (n := 5) (Nat.le_of_ble_eq_true rfl)
  rw [lg_entry_eq]
  generalize (lg_sl ([.ref h0, .int (nI r), .int j, .ref oo]) ++ List.replicate (5 - (lg_sl ([.ref h0, .int (nI r), .int j, .ref oo])).length) Slot.unset).toArray = ls at hl ⊢
  have hl : lv_has ls 5 [(0, .ref h0), (1, .int (nI r)), (2, .int j), (3, .ref oo)] := hl
  refine lv_aload_n hx hb dL_round_0 rfl (lv_at hl 3 rfl) ?_
  refine lv_iconst (v := nI 0) hx hb dL_round_1 (by decide) ?_
  refine lv_aload_n hx hb dL_round_2 rfl (lv_at hl 0 rfl) ?_
  refine lv_iload_n hx hb dL_round_3 rfl (lv_at hl 1 rfl) ?_
  refine lv_iload_n hx hb dL_round_4 rfl (lv_at hl 2 rfl) ?_
  refine wk_Vxi (b := h0) (As := [.int (nI r), .int j]) (rest := [.int (nI 0), .ref oo]) (wc := [(h0, .inr (0, [.ref kw, .int kb, .int kr, .ref sc, .ref so, .ref tp, .int tl, .ref ct, .ref sr]))]) (wr := [(oo, .inl (cJ, 1, .inr (.inl g)))]) (ci := 0) (q0 := 0) ⟨hx, hb, hml, hown, hts⟩ (c_X0_round0j l hlt D cI sa h0 kw sc so tp ct sr kb kr tl r j _ hr9 hbad) (cwV 2 hts gL_round_X0_round rfl rfl rfl (by decide +kernel) ⟨Nat.le_of_ble_eq_true rfl, Nat.le_of_ble_eq_true rfl⟩) (fun V g mk a h => thw.call g mk a h) (fun hF V hU hW => hth.give hS hF hU hW) hK hP hD hS hA rfl rfl [0] [1] rfl (by decide) rfl (by decide) (by decide) [1, 0] rfl (by decide) rfl hl.1 rfl (Nat.le_of_ble_eq_true rfl) dL_round_5 ⟨Nat.le_of_ble_eq_true rfl, Nat.le_of_ble_eq_true rfl⟩ (fun ce q9 H locs hP hD hS hce hcv hcl => ?_)
  have hsp : c.exceptionTable.toList = tableOf [(0, 10, 13, 13), (0, 10, 17, 25)] := vx_table (x := yL_round) B (hts _ List.mem_cons_self)
  refine vx_catch (own := RL) (name := "java/lang/IndexOutOfBoundsException") hown [] ⟨0, 10, 13, 13⟩ [⟨0, 10, 17, 25⟩] hsp (fun z hz => absurd hz List.not_mem_nil) (by decide) (by decide) (hts (.classLink RL 13 "java/lang/IndexOutOfBoundsException") (by decide +kernel)) (va_Nw.use rfl hth.2.2.2.1) hce hcv hcl ?_
  refine lv_astore (lv' := [(4, .ref q9), (0, .ref h0), (1, .int (nI r)), (2, .int j), (3, .ref oo)]) hx hb dL_round_13 hl (by decide) rfl (fun ls hl => ?_)
  refine lv_iconst (v := nI 1) hx hb dL_round_15 (by decide) ?_
  exact W.iret (v := nI 1) hx hb hr (fun t ht hW => ⟨⟨_, (fun _ _ => 0), rfl, rfl, by rw [ht]; exact hP, va_K.moved hW.alike hK2, hD⟩, hS.F ht⟩) hS.2.2 dL_round_16
set_option maxHeartbeats 4000000 in
set_option maxRecDepth 100000 in
theorem c_L_round2 (l : Launch) (hlt : l.stackTraces = false) (D : va_G) (cI cJ : ClassId) (sa : Nat) (h0 kw sc so tp ct sr oo : Nat) (kb tl : Int32) (r j : Nat) (g : Nat → Int64) (sz : Nat) (hr9 : r ≤ 32) (hj : j ≤ 3) : Met l yL_round wsL_round ({ frames := 8, cells := 1, slots := 6, locals := 134 }) (va_Pc [.ref h0, .int (nI r), .int (nI j), .ref oo] (fun U => PW D [(cI, .int), (cJ, .long)] [(h0, .inr (0, [.ref kw, .int kb, .int (nI 0), .ref sc, .ref so, .ref tp, .int tl, .ref ct, .ref sr])), (oo, .inl (cJ, 1, .inr (.inl g)))] sz U ∧ (thw "java/lang/IllegalStateException" 125 "the key is not ready" sa (va_A [(h0, .inr (0, [.ref kw, .int kb, .int (nI 0), .ref sc, .ref so, .ref tp, .int tl, .ref ct, .ref sr])), (oo, .inl (cJ, 1, .inr (.inl g)))] sz) U U.heap ∧ va_Nc "java/lang/IllegalStateException" "java/lang/IndexOutOfBoundsException" U))) (va_Qi (fun r9 (u : Nat → Nat → Int32) => r9 = nI 2) (fun u => BW D [(cI, .int), (cJ, .long)] (va_A [(h0, .inr (0, [.ref kw, .int kb, .int (nI 0), .ref sc, .ref so, .ref tp, .int tl, .ref ct, .ref sr])), (oo, .inl (cJ, 1, .inr (.inl g)))] sz) [(h0, .inr (0, [.ref kw, .int kb, .int (nI 0), .ref sc, .ref so, .ref tp, .int tl, .ref ct, .ref sr])), (oo, .inl (cJ, 1, .inr (.inl g)))]) (va_A [(h0, .inr (0, [.ref kw, .int kb, .int (nI 0), .ref sc, .ref so, .ref tp, .int tl, .ref ct, .ref sr])), (oo, .inl (cJ, 1, .inr (.inl g)))] sz)) 1 6 (va_A [(h0, .inr (0, [.ref kw, .int kb, .int (nI 0), .ref sc, .ref so, .ref tp, .int tl, .ref ct, .ref sr])), (oo, .inl (cJ, 1, .inr (.inl g)))] sz) := by
  refine va_MetW (cc := cL_round) (maxL := 5) (ret := (some .int)) (hh := [(0, 10, 13, 13), (0, 10, 17, 25)]) (by decide) rfl ?_
  intro p e s m args below meth c s₁ B hml hv
  obtain ⟨rfl, ⟨hsz, hP, hK2, hD0⟩, ⟨hth, hnc⟩⟩ := hv
  have hK := hK2.sub (tys' := [(cI, .int)]) [0] rfl
  have hx := B.exec
  have hb := B.bytes
  have hr := B.returns
  have hts := atoms_spec (ws := wsL_round) B.pre
  have hown : s.vm.findClass RL = some m.cls := findClass_of_methodNamed B.named
  have hlocks := B.notSynchronized
  subst hsz
  have hD := hD0.self (sz := s.heap.size)
  generalize hAe : va_A [(h0, .inr (0, [.ref kw, .int kb, .int (nI 0), .ref sc, .ref so, .ref tp, .int tl, .ref ct, .ref sr])), (oo, .inl (cJ, 1, .inr (.inl g)))] s.heap.size = A at hth hD ⊢
  have hA : ∀ q : Nat, s.heap.size ≤ q → A q := fun q h => by rw [← hAe]; exact Or.inr h
  have hS : va_S A s.heap s.heap [] := va_S.rf
  have hl := lv_entry ([.ref h0, .int (nI r), .int (nI j), .ref oo]) (n := 5) (Nat.le_of_ble_eq_true rfl)
  rw [lg_entry_eq]
  generalize (lg_sl ([.ref h0, .int (nI r), .int (nI j), .ref oo]) ++ List.replicate (5 - (lg_sl ([.ref h0, .int (nI r), .int (nI j), .ref oo])).length) Slot.unset).toArray = ls at hl ⊢
  have hl : lv_has ls 5 [(0, .ref h0), (1, .int (nI r)), (2, .int (nI j)), (3, .ref oo)] := hl
  refine lv_aload_n hx hb dL_round_0 rfl (lv_at hl 3 rfl) ?_
  refine lv_iconst (v := nI 0) hx hb dL_round_1 (by decide) ?_
  refine lv_aload_n hx hb dL_round_2 rfl (lv_at hl 0 rfl) ?_
  refine lv_iload_n hx hb dL_round_3 rfl (lv_at hl 1 rfl) ?_
  refine lv_iload_n hx hb dL_round_4 rfl (lv_at hl 2 rfl) ?_
  refine wk_Vxi (b := h0) (As := [.int (nI r), .int (nI j)]) (rest := [.int (nI 0), .ref oo]) (wc := [(h0, .inr (0, [.ref kw, .int kb, .int (nI 0), .ref sc, .ref so, .ref tp, .int tl, .ref ct, .ref sr]))]) (wr := [(oo, .inl (cJ, 1, .inr (.inl g)))]) (ci := 0) (q0 := 0) ⟨hx, hb, hml, hown, hts⟩ (c_X0_round2 l hlt D cI sa h0 kw sc so tp ct sr kb tl r j _ hr9 hj) (cwV 2 hts gL_round_X0_round rfl rfl rfl (by decide +kernel) ⟨Nat.le_of_ble_eq_true rfl, Nat.le_of_ble_eq_true rfl⟩) (fun V g mk a h => thw.call g mk a h) (fun hF V hU hW => hth.give hS hF hU hW) hK hP hD hS hA rfl rfl [0] [1] rfl (by decide) rfl (by decide) (by decide) [1, 0] rfl (by decide) rfl hl.1 rfl (Nat.le_of_ble_eq_true rfl) dL_round_5 ⟨Nat.le_of_ble_eq_true rfl, Nat.le_of_ble_eq_true rfl⟩ (fun ce q9 H locs hP hD hS hce hcv hcl => ?_)
  have hsp : c.exceptionTable.toList = tableOf [(0, 10, 13, 13), (0, 10, 17, 25)] := vx_table (x := yL_round) B (hts _ List.mem_cons_self)
  refine vx_catch (own := RL) (name := "java/lang/IllegalStateException") hown [⟨0, 10, 13, 13⟩] ⟨0, 10, 17, 25⟩ [] hsp (fun z hz => by rw [List.mem_singleton.mp hz]; exact Or.inr ⟨by decide, "java/lang/IndexOutOfBoundsException", hts (.classLink RL 13 "java/lang/IndexOutOfBoundsException") (by decide +kernel), hnc⟩) (by decide) (by decide) (hts (.classLink RL 25 "java/lang/IllegalStateException") (by decide +kernel)) (va_Nw.use rfl hth.2.2.2.1) hce hcv hcl ?_
  refine lv_astore (lv' := [(4, .ref q9), (0, .ref h0), (1, .int (nI r)), (2, .int (nI j)), (3, .ref oo)]) hx hb dL_round_17 hl (by decide) rfl (fun ls hl => ?_)
  refine lv_iconst (v := nI 2) hx hb dL_round_19 (by decide) ?_
  exact W.iret (v := nI 2) hx hb hr (fun t ht hW => ⟨⟨_, (fun _ _ => 0), rfl, rfl, by rw [ht]; exact hP, va_K.moved hW.alike hK2, hD⟩, hS.F ht⟩) hS.2.2 dL_round_20
set_option maxHeartbeats 4000000 in
set_option maxRecDepth 100000 in
theorem c_L_boxF (l : Launch) (D : va_G) (cI cJ : ClassId) (tb : Nat) (h0 kw sc so tp ct sr oo : Nat) (kb kr tl : Int32) (wh v : Nat) (g : Nat → Int64) (sz : Nat) (hw : wh < 8) (hv : v < 16) : Met l yL_box wsL_box ({ frames := 2, cells := 0, slots := 0, locals := 46 }) (va_Pc [.ref h0, .int (nI wh), .int (nI v), .int (nI 0), .ref oo] (fun U => PW D [(cI, .int), (cJ, .long)] [(h0, .inr (0, [.ref kw, .int kb, .int kr, .ref sc, .ref so, .ref tp, .int tl, .ref ct, .ref sr])), (oo, .inl (cJ, 1, .inr (.inl g)))] sz U ∧ bxs tb (va_A [(h0, .inr (0, [.ref kw, .int kb, .int kr, .ref sc, .ref so, .ref tp, .int tl, .ref ct, .ref sr])), (oo, .inl (cJ, 1, .inr (.inl g)))] sz) U U.heap)) (va_Qi (fun r9 (u : Nat → Nat → Int32) => r9 = nI 0) (fun u => BW D [(cI, .int), (cJ, .long)] (va_A [(h0, .inr (0, [.ref kw, .int kb, .int kr, .ref sc, .ref so, .ref tp, .int tl, .ref ct, .ref sr])), (oo, .inl (cJ, 1, .inr (.inl g)))] sz) [(h0, .inr (0, [.ref kw, .int kb, .int kr, .ref sc, .ref so, .ref tp, .int tl, .ref ct, .ref sr])), (oo, .inl (cJ, 1, .inr (.inl (vp_updL g 0 (TB (16 * wh + v)).toInt64))))]) (va_A [(h0, .inr (0, [.ref kw, .int kb, .int kr, .ref sc, .ref so, .ref tp, .int tl, .ref ct, .ref sr])), (oo, .inl (cJ, 1, .inr (.inl g)))] sz)) 0 0 (va_A [(h0, .inr (0, [.ref kw, .int kb, .int kr, .ref sc, .ref so, .ref tp, .int tl, .ref ct, .ref sr])), (oo, .inl (cJ, 1, .inr (.inl g)))] sz) := by
  refine va_MetW (cc := cL_box) (maxL := 6) (ret := (some .int)) (hh := [(0, 12, 15, 13), (0, 12, 19, 19)]) (by decide) rfl ?_
  intro p e s m args below meth c s₁ B hml hv
  obtain ⟨rfl, ⟨hsz, hP, hK2, hD0⟩, hbx⟩ := hv
  have hK := hK2.sub (tys' := [(cI, .int)]) [0] rfl
  have hx := B.exec
  have hb := B.bytes
  have hr := B.returns
  have hts := atoms_spec (ws := wsL_box) B.pre
  have hown : s.vm.findClass RL = some m.cls := findClass_of_methodNamed B.named
  have hlocks := B.notSynchronized
  subst hsz
  have hD := hD0.self (sz := s.heap.size)
  generalize hAe : va_A [(h0, .inr (0, [.ref kw, .int kb, .int kr, .ref sc, .ref so, .ref tp, .int tl, .ref ct, .ref sr])), (oo, .inl (cJ, 1, .inr (.inl g)))] s.heap.size = A at hbx hD ⊢
  have hA : ∀ q : Nat, s.heap.size ≤ q → A q := fun q h => by rw [← hAe]; exact Or.inr h
  have hS : va_S A s.heap s.heap [] := va_S.rf
  have hl := lv_entry ([.ref h0, .int (nI wh), .int (nI v), .int (nI 0), .ref oo]) (n := 6) (Nat.le_of_ble_eq_true rfl)
  rw [lg_entry_eq]
  generalize (lg_sl ([.ref h0, .int (nI wh), .int (nI v), .int (nI 0), .ref oo]) ++ List.replicate (6 - (lg_sl ([.ref h0, .int (nI wh), .int (nI v), .int (nI 0), .ref oo])).length) Slot.unset).toArray = ls at hl ⊢
  have hl : lv_has ls 6 [(0, .ref h0), (1, .int (nI wh)), (2, .int (nI v)), (3, .int (nI 0)), (4, .ref oo)] := hl
  refine lv_aload hx hb dL_box_0 (lv_at hl 4 rfl) ?_
  refine lv_iconst (v := nI 0) hx hb dL_box_2 (by decide) ?_
  refine lv_aload_n hx hb dL_box_3 rfl (lv_at hl 0 rfl) ?_
  refine lv_iload_n hx hb dL_box_4 rfl (lv_at hl 1 rfl) ?_
  refine lv_iload_n hx hb dL_box_5 rfl (lv_at hl 2 rfl) ?_
  refine lv_iload_n hx hb dL_box_6 rfl (lv_at hl 3 rfl) ?_
  refine wk_Vi (b := h0) (As := [.int (nI wh), .int (nI v), .int (nI 0)]) (rest := [.int (nI 0), .ref oo]) (wc := [(h0, .inr (0, [.ref kw, .int kb, .int kr, .ref sc, .ref so, .ref tp, .int tl, .ref ct, .ref sr]))]) (ci := 0) (q0 := 0) ⟨hx, hb, hml, hown, hts⟩ (c_X0_boxF l D cI tb _ h0 kw sc so tp ct sr kb kr tl wh v hw hv) (cwV 3 hts gL_box_X0_box rfl rfl rfl (by decide +kernel) ⟨Nat.le_of_ble_eq_true rfl, Nat.le_of_ble_eq_true rfl⟩) (fun U g mk a h => bxs.call g mk a h) (fun U hU hW => hbx.give hS (va_free hD hS hA [0] rfl) hU hW) hK hP hD rfl rfl [0] rfl (by decide) rfl hl.1 rfl (Nat.le_of_ble_eq_true rfl) dL_box_7 ⟨Nat.zero_le _, Nat.zero_le _⟩ (fun z9 hz9 => ?_)
  refine wk_i (y := TB (16 * wh + v)) hz9 ?_
  refine lv_i2l (v := (TB (16 * wh + v)).toInt64) hx hb dL_box_10 rfl ?_
  refine va_last hx hb hK2 hP hD hS 1 1 rfl rfl (i := nI 0) (x := (TB (16 * wh + v)).toInt64) (vp_in_nI (by decide) (by decide)) dL_box_11 (fun H locs hP hD hS => ?_)
  have hP : va_P D vwCl [(h0, .inr (0, [.ref kw, .int kb, .int kr, .ref sc, .ref so, .ref tp, .int tl, .ref ct, .ref sr])), (oo, .inl (cJ, 1, .inr (.inl (vp_updL g 0 ((TB (16 * wh + v)).toInt64)))))] H := hP
  have hD : va_D A [(h0, .inr (0, [.ref kw, .int kb, .int kr, .ref sc, .ref so, .ref tp, .int tl, .ref ct, .ref sr])), (oo, .inl (cJ, 1, .inr (.inl (vp_updL g 0 ((TB (16 * wh + v)).toInt64)))))] := hD
  refine lv_goto (tgt := 23) hx hb dL_box_12 (by decide) ?_
  refine lv_iconst (v := nI 0) hx hb dL_box_23 (by decide) ?_
  exact W.iret (v := nI 0) hx hb hr (fun t ht hW => ⟨⟨_, (fun _ _ => 0), rfl, rfl, by rw [ht]; exact hP, va_K.moved hW.alike hK2, hD⟩, hS.F ht⟩) hS.2.2 dL_box_24
set_option maxHeartbeats 4000000 in
set_option maxRecDepth 100000 in
theorem c_L_boxB (l : Launch) (D : va_G) (cI cJ : ClassId) (tb : Nat) (h0 kw sc so tp ct sr oo : Nat) (kb kr tl : Int32) (wh v : Nat) (bb : Int32) (g : Nat → Int64) (sz : Nat) (hw : wh < 8) (hv : v < 16) (hbb : ¬ bb = 0) : Met l yL_box wsL_box ({ frames := 2, cells := 0, slots := 0, locals := 46 }) (va_Pc [.ref h0, .int (nI wh), .int (nI v), .int bb, .ref oo] (fun U => PW D [(cI, .int), (cJ, .long)] [(h0, .inr (0, [.ref kw, .int kb, .int kr, .ref sc, .ref so, .ref tp, .int tl, .ref ct, .ref sr])), (oo, .inl (cJ, 1, .inr (.inl g)))] sz U ∧ bxs tb (va_A [(h0, .inr (0, [.ref kw, .int kb, .int kr, .ref sc, .ref so, .ref tp, .int tl, .ref ct, .ref sr])), (oo, .inl (cJ, 1, .inr (.inl g)))] sz) U U.heap)) (va_Qi (fun r9 (u : Nat → Nat → Int32) => r9 = nI 0) (fun u => BW D [(cI, .int), (cJ, .long)] (va_A [(h0, .inr (0, [.ref kw, .int kb, .int kr, .ref sc, .ref so, .ref tp, .int tl, .ref ct, .ref sr])), (oo, .inl (cJ, 1, .inr (.inl g)))] sz) [(h0, .inr (0, [.ref kw, .int kb, .int kr, .ref sc, .ref so, .ref tp, .int tl, .ref ct, .ref sr])), (oo, .inl (cJ, 1, .inr (.inl (vp_updL g 0 (nI (cSrc wh (nI v) 16)).toInt64))))]) (va_A [(h0, .inr (0, [.ref kw, .int kb, .int kr, .ref sc, .ref so, .ref tp, .int tl, .ref ct, .ref sr])), (oo, .inl (cJ, 1, .inr (.inl g)))] sz)) 0 0 (va_A [(h0, .inr (0, [.ref kw, .int kb, .int kr, .ref sc, .ref so, .ref tp, .int tl, .ref ct, .ref sr])), (oo, .inl (cJ, 1, .inr (.inl g)))] sz) := by
  refine va_MetW (cc := cL_box) (maxL := 6) (ret := (some .int)) (hh := [(0, 12, 15, 13), (0, 12, 19, 19)]) (by decide) rfl ?_
  intro p e s m args below meth c s₁ B hml hv
  obtain ⟨rfl, ⟨hsz, hP, hK2, hD0⟩, hbx⟩ := hv
  have hK := hK2.sub (tys' := [(cI, .int)]) [0] rfl
  have hx := B.exec
  have hb := B.bytes
  have hr := B.returns
  have hts := atoms_spec (ws := wsL_box) B.pre
  have hown : s.vm.findClass RL = some m.cls := findClass_of_methodNamed B.named
  have hlocks := B.notSynchronized
  subst hsz
  have hD := hD0.self (sz := s.heap.size)
  generalize hAe : va_A [(h0, .inr (0, [.ref kw, .int kb, .int kr, .ref sc, .ref so, .ref tp, .int tl, .ref ct, .ref sr])), (oo, .inl (cJ, 1, .inr (.inl g)))] s.heap.size = A at hbx hD ⊢
  have hA : ∀ q : Nat, s.heap.size ≤ q → A q := fun q h => by rw [← hAe]; exact Or.inr h
  have hS : va_S A s.heap s.heap [] := va_S.rf
  have hl := lv_entry ([.ref h0, .int (nI wh), .int (nI v), .int bb, .ref oo]) (n := 6) (Nat.le_of_ble_eq_true rfl)
  rw [lg_entry_eq]
  generalize (lg_sl ([.ref h0, .int (nI wh), .int (nI v), .int bb, .ref oo]) ++ List.replicate (6 - (lg_sl ([.ref h0, .int (nI wh), .int (nI v), .int bb, .ref oo])).length) Slot.unset).toArray = ls at hl ⊢
  have hl : lv_has ls 6 [(0, .ref h0), (1, .int (nI wh)), (2, .int (nI v)), (3, .int bb), (4, .ref oo)] := hl
  refine lv_aload hx hb dL_box_0 (lv_at hl 4 rfl) ?_
  refine lv_iconst (v := nI 0) hx hb dL_box_2 (by decide) ?_
  refine lv_aload_n hx hb dL_box_3 rfl (lv_at hl 0 rfl) ?_
  refine lv_iload_n hx hb dL_box_4 rfl (lv_at hl 1 rfl) ?_
  refine lv_iload_n hx hb dL_box_5 rfl (lv_at hl 2 rfl) ?_
  refine lv_iload_n hx hb dL_box_6 rfl (lv_at hl 3 rfl) ?_
  refine wk_Vi (b := h0) (As := [.int (nI wh), .int (nI v), .int bb]) (rest := [.int (nI 0), .ref oo]) (wc := [(h0, .inr (0, [.ref kw, .int kb, .int kr, .ref sc, .ref so, .ref tp, .int tl, .ref ct, .ref sr]))]) (ci := 0) (q0 := 0) ⟨hx, hb, hml, hown, hts⟩ (c_X0_boxB l D cI tb _ h0 kw sc so tp ct sr kb kr tl wh v bb hw hv hbb) (cwV 3 hts gL_box_X0_box rfl rfl rfl (by decide +kernel) ⟨Nat.le_of_ble_eq_true rfl, Nat.le_of_ble_eq_true rfl⟩) (fun U g mk a h => bxs.call g mk a h) (fun U hU hW => hbx.give hS (va_free hD hS hA [0] rfl) hU hW) hK hP hD rfl rfl [0] rfl (by decide) rfl hl.1 rfl (Nat.le_of_ble_eq_true rfl) dL_box_7 ⟨Nat.zero_le _, Nat.zero_le _⟩ (fun z9 hz9 => ?_)
  refine wk_i (y := nI (cSrc wh (nI v) 16)) hz9 ?_
  refine lv_i2l (v := (nI (cSrc wh (nI v) 16)).toInt64) hx hb dL_box_10 rfl ?_
  refine va_last hx hb hK2 hP hD hS 1 1 rfl rfl (i := nI 0) (x := (nI (cSrc wh (nI v) 16)).toInt64) (vp_in_nI (by decide) (by decide)) dL_box_11 (fun H locs hP hD hS => ?_)
  have hP : va_P D vwCl [(h0, .inr (0, [.ref kw, .int kb, .int kr, .ref sc, .ref so, .ref tp, .int tl, .ref ct, .ref sr])), (oo, .inl (cJ, 1, .inr (.inl (vp_updL g 0 ((nI (cSrc wh (nI v) 16)).toInt64)))))] H := hP
  have hD : va_D A [(h0, .inr (0, [.ref kw, .int kb, .int kr, .ref sc, .ref so, .ref tp, .int tl, .ref ct, .ref sr])), (oo, .inl (cJ, 1, .inr (.inl (vp_updL g 0 ((nI (cSrc wh (nI v) 16)).toInt64)))))] := hD
  refine lv_goto (tgt := 23) hx hb dL_box_12 (by decide) ?_
  refine lv_iconst (v := nI 0) hx hb dL_box_23 (by decide) ?_
  exact W.iret (v := nI 0) hx hb hr (fun t ht hW => ⟨⟨_, (fun _ _ => 0), rfl, rfl, by rw [ht]; exact hP, va_K.moved hW.alike hK2, hD⟩, hS.F ht⟩) hS.2.2 dL_box_24
set_option maxHeartbeats 4000000 in
set_option maxRecDepth 100000 in
theorem c_L_box0 (l : Launch) (hlt : l.stackTraces = false) (D : va_G) (cI cJ : ClassId) (sa : Nat) (h0 kw sc so tp ct sr oo : Nat) (kb kr tl : Int32) (i v bb : Int32) (g : Nat → Int64) (sz : Nat) (hbad : i < nI 0 ∨ (¬ i < nI 0 ∧ ¬ i < nI 8)) : Met l yL_box wsL_box ({ frames := 7, cells := 1, slots := 6, locals := 105 }) (va_Pc [.ref h0, .int i, .int v, .int bb, .ref oo] (fun U => PW D [(cI, .int), (cJ, .long)] [(h0, .inr (0, [.ref kw, .int kb, .int kr, .ref sc, .ref so, .ref tp, .int tl, .ref ct, .ref sr])), (oo, .inl (cJ, 1, .inr (.inl g)))] sz U ∧ thw "java/lang/IndexOutOfBoundsException" 76 "no such box" sa (va_A [(h0, .inr (0, [.ref kw, .int kb, .int kr, .ref sc, .ref so, .ref tp, .int tl, .ref ct, .ref sr])), (oo, .inl (cJ, 1, .inr (.inl g)))] sz) U U.heap)) (va_Qi (fun r9 (u : Nat → Nat → Int32) => r9 = nI 1) (fun u => BW D [(cI, .int), (cJ, .long)] (va_A [(h0, .inr (0, [.ref kw, .int kb, .int kr, .ref sc, .ref so, .ref tp, .int tl, .ref ct, .ref sr])), (oo, .inl (cJ, 1, .inr (.inl g)))] sz) [(h0, .inr (0, [.ref kw, .int kb, .int kr, .ref sc, .ref so, .ref tp, .int tl, .ref ct, .ref sr])), (oo, .inl (cJ, 1, .inr (.inl g)))]) (va_A [(h0, .inr (0, [.ref kw, .int kb, .int kr, .ref sc, .ref so, .ref tp, .int tl, .ref ct, .ref sr])), (oo, .inl (cJ, 1, .inr (.inl g)))] sz)) 1 6 (va_A [(h0, .inr (0, [.ref kw, .int kb, .int kr, .ref sc, .ref so, .ref tp, .int tl, .ref ct, .ref sr])), (oo, .inl (cJ, 1, .inr (.inl g)))] sz) := by
  refine va_MetW (cc := cL_box) (maxL := 6) (ret := (some .int)) (hh := [(0, 12, 15, 13), (0, 12, 19, 19)]) (by decide) rfl ?_
  intro p e s m args below meth c s₁ B hml hv
  obtain ⟨rfl, ⟨hsz, hP, hK2, hD0⟩, hth⟩ := hv
  have hK := hK2.sub (tys' := [(cI, .int)]) [0] rfl
  have hx := B.exec
  have hb := B.bytes
  have hr := B.returns
  have hts := atoms_spec (ws := wsL_box) B.pre
  have hown : s.vm.findClass RL = some m.cls := findClass_of_methodNamed B.named
  have hlocks := B.notSynchronized
  subst hsz
  have hD := hD0.self (sz := s.heap.size)
  generalize hAe : va_A [(h0, .inr (0, [.ref kw, .int kb, .int kr, .ref sc, .ref so, .ref tp, .int tl, .ref ct, .ref sr])), (oo, .inl (cJ, 1, .inr (.inl g)))] s.heap.size = A at hth hD ⊢
  have hA : ∀ q : Nat, s.heap.size ≤ q → A q := fun q h => by rw [← hAe]; exact Or.inr h
  have hS : va_S A s.heap s.heap [] := va_S.rf
  have hl := lv_entry ([.ref h0, .int i, .int v, .int bb, .ref oo]) (n := 6) (Nat.le_of_ble_eq_true rfl)
  rw [lg_entry_eq]
  generalize (lg_sl ([.ref h0, .int i, .int v, .int bb, .ref oo]) ++ List.replicate (6 - (lg_sl ([.ref h0, .int i, .int v, .int bb, .ref oo])).length) Slot.unset).toArray = ls at hl ⊢
  have hl : lv_has ls 6 [(0, .ref h0), (1, .int i), (2, .int v), (3, .int bb), (4, .ref oo)] := hl
  refine lv_aload hx hb dL_box_0 (lv_at hl 4 rfl) ?_
  refine lv_iconst (v := nI 0) hx hb dL_box_2 (by decide) ?_
  refine lv_aload_n hx hb dL_box_3 rfl (lv_at hl 0 rfl) ?_
  refine lv_iload_n hx hb dL_box_4 rfl (lv_at hl 1 rfl) ?_
  refine lv_iload_n hx hb dL_box_5 rfl (lv_at hl 2 rfl) ?_
  refine lv_iload_n hx hb dL_box_6 rfl (lv_at hl 3 rfl) ?_
  refine wk_Vxi (b := h0) (As := [.int i, .int v, .int bb]) (rest := [.int (nI 0), .ref oo]) (wc := [(h0, .inr (0, [.ref kw, .int kb, .int kr, .ref sc, .ref so, .ref tp, .int tl, .ref ct, .ref sr]))]) (wr := [(oo, .inl (cJ, 1, .inr (.inl g)))]) (ci := 0) (q0 := 0) ⟨hx, hb, hml, hown, hts⟩ (c_X0_box0 l hlt D cI sa h0 kw sc so tp ct sr kb kr tl i v bb _ hbad) (cwV 3 hts gL_box_X0_box rfl rfl rfl (by decide +kernel) ⟨Nat.le_of_ble_eq_true rfl, Nat.le_of_ble_eq_true rfl⟩) (fun V g mk a h => thw.call g mk a h) (fun hF V hU hW => hth.give hS hF hU hW) hK hP hD hS hA rfl rfl [0] [1] rfl (by decide) rfl (by decide) (by decide) [1, 0] rfl (by decide) rfl hl.1 rfl (Nat.le_of_ble_eq_true rfl) dL_box_7 ⟨Nat.le_of_ble_eq_true rfl, Nat.le_of_ble_eq_true rfl⟩ (fun ce q9 H locs hP hD hS hce hcv hcl => ?_)
  have hsp : c.exceptionTable.toList = tableOf [(0, 12, 15, 13), (0, 12, 19, 19)] := vx_table (x := yL_box) B (hts _ List.mem_cons_self)
  refine vx_catch (own := RL) (name := "java/lang/IndexOutOfBoundsException") hown [] ⟨0, 12, 15, 13⟩ [⟨0, 12, 19, 19⟩] hsp (fun z hz => absurd hz List.not_mem_nil) (by decide) (by decide) (hts (.classLink RL 13 "java/lang/IndexOutOfBoundsException") (by decide +kernel)) (va_Nw.use rfl hth.2.2.2.1) hce hcv hcl ?_
  refine lv_astore (lv' := [(5, .ref q9), (0, .ref h0), (1, .int i), (2, .int v), (3, .int bb), (4, .ref oo)]) hx hb dL_box_15 hl (by decide) rfl (fun ls hl => ?_)
  refine lv_iconst (v := nI 1) hx hb dL_box_17 (by decide) ?_
  exact W.iret (v := nI 1) hx hb hr (fun t ht hW => ⟨⟨_, (fun _ _ => 0), rfl, rfl, by rw [ht]; exact hP, va_K.moved hW.alike hK2, hD⟩, hS.F ht⟩) hS.2.2 dL_box_18
set_option maxHeartbeats 4000000 in
set_option maxRecDepth 100000 in
theorem c_L_box2 (l : Launch) (hlt : l.stackTraces = false) (D : va_G) (cI cJ : ClassId) (sa : Nat) (h0 kw sc so tp ct sr oo : Nat) (kb kr tl : Int32) (wh : Nat) (i bb : Int32) (g : Nat → Int64) (sz : Nat) (hw : wh < 8) (hbad : i < nI 0 ∨ (¬ i < nI 0 ∧ ¬ i < nI 16)) : Met l yL_box wsL_box ({ frames := 7, cells := 1, slots := 6, locals := 105 }) (va_Pc [.ref h0, .int (nI wh), .int i, .int bb, .ref oo] (fun U => PW D [(cI, .int), (cJ, .long)] [(h0, .inr (0, [.ref kw, .int kb, .int kr, .ref sc, .ref so, .ref tp, .int tl, .ref ct, .ref sr])), (oo, .inl (cJ, 1, .inr (.inl g)))] sz U ∧ (thw "java/lang/IllegalArgumentException" 78 "a box changes 0 to 15" sa (va_A [(h0, .inr (0, [.ref kw, .int kb, .int kr, .ref sc, .ref so, .ref tp, .int tl, .ref ct, .ref sr])), (oo, .inl (cJ, 1, .inr (.inl g)))] sz) U U.heap ∧ va_Nc "java/lang/IllegalArgumentException" "java/lang/IndexOutOfBoundsException" U))) (va_Qi (fun r9 (u : Nat → Nat → Int32) => r9 = nI 2) (fun u => BW D [(cI, .int), (cJ, .long)] (va_A [(h0, .inr (0, [.ref kw, .int kb, .int kr, .ref sc, .ref so, .ref tp, .int tl, .ref ct, .ref sr])), (oo, .inl (cJ, 1, .inr (.inl g)))] sz) [(h0, .inr (0, [.ref kw, .int kb, .int kr, .ref sc, .ref so, .ref tp, .int tl, .ref ct, .ref sr])), (oo, .inl (cJ, 1, .inr (.inl g)))]) (va_A [(h0, .inr (0, [.ref kw, .int kb, .int kr, .ref sc, .ref so, .ref tp, .int tl, .ref ct, .ref sr])), (oo, .inl (cJ, 1, .inr (.inl g)))] sz)) 1 6 (va_A [(h0, .inr (0, [.ref kw, .int kb, .int kr, .ref sc, .ref so, .ref tp, .int tl, .ref ct, .ref sr])), (oo, .inl (cJ, 1, .inr (.inl g)))] sz) := by
  refine va_MetW (cc := cL_box) (maxL := 6) (ret := (some .int)) (hh := [(0, 12, 15, 13), (0, 12, 19, 19)]) (by decide) rfl ?_
  intro p e s m args below meth c s₁ B hml hv
  obtain ⟨rfl, ⟨hsz, hP, hK2, hD0⟩, ⟨hth, hnc⟩⟩ := hv
  have hK := hK2.sub (tys' := [(cI, .int)]) [0] rfl
  have hx := B.exec
  have hb := B.bytes
  have hr := B.returns
  have hts := atoms_spec (ws := wsL_box) B.pre
  have hown : s.vm.findClass RL = some m.cls := findClass_of_methodNamed B.named
  have hlocks := B.notSynchronized
  subst hsz
  have hD := hD0.self (sz := s.heap.size)
  generalize hAe : va_A [(h0, .inr (0, [.ref kw, .int kb, .int kr, .ref sc, .ref so, .ref tp, .int tl, .ref ct, .ref sr])), (oo, .inl (cJ, 1, .inr (.inl g)))] s.heap.size = A at hth hD ⊢
  have hA : ∀ q : Nat, s.heap.size ≤ q → A q := fun q h => by rw [← hAe]; exact Or.inr h
  have hS : va_S A s.heap s.heap [] := va_S.rf
  have hl := lv_entry ([.ref h0, .int (nI wh), .int i, .int bb, .ref oo]) (n := 6) (Nat.le_of_ble_eq_true rfl)
  rw [lg_entry_eq]
  generalize (lg_sl ([.ref h0, .int (nI wh), .int i, .int bb, .ref oo]) ++ List.replicate (6 - (lg_sl ([.ref h0, .int (nI wh), .int i, .int bb, .ref oo])).length) Slot.unset).toArray = ls at hl ⊢
  have hl : lv_has ls 6 [(0, .ref h0), (1, .int (nI wh)), (2, .int i), (3, .int bb), (4, .ref oo)] := hl
  refine lv_aload hx hb dL_box_0 (lv_at hl 4 rfl) ?_
  refine lv_iconst (v := nI 0) hx hb dL_box_2 (by decide) ?_
  refine lv_aload_n hx hb dL_box_3 rfl (lv_at hl 0 rfl) ?_
  refine lv_iload_n hx hb dL_box_4 rfl (lv_at hl 1 rfl) ?_
  refine lv_iload_n hx hb dL_box_5 rfl (lv_at hl 2 rfl) ?_
  refine lv_iload_n hx hb dL_box_6 rfl (lv_at hl 3 rfl) ?_
  refine wk_Vxi (b := h0) (As := [.int (nI wh), .int i, .int bb]) (rest := [.int (nI 0), .ref oo]) (wc := [(h0, .inr (0, [.ref kw, .int kb, .int kr, .ref sc, .ref so, .ref tp, .int tl, .ref ct, .ref sr]))]) (wr := [(oo, .inl (cJ, 1, .inr (.inl g)))]) (ci := 0) (q0 := 0) ⟨hx, hb, hml, hown, hts⟩ (c_X0_box2 l hlt D cI sa h0 kw sc so tp ct sr kb kr tl wh i bb _ hw hbad) (cwV 3 hts gL_box_X0_box rfl rfl rfl (by decide +kernel) ⟨Nat.le_of_ble_eq_true rfl, Nat.le_of_ble_eq_true rfl⟩) (fun V g mk a h => thw.call g mk a h) (fun hF V hU hW => hth.give hS hF hU hW) hK hP hD hS hA rfl rfl [0] [1] rfl (by decide) rfl (by decide) (by decide) [1, 0] rfl (by decide) rfl hl.1 rfl (Nat.le_of_ble_eq_true rfl) dL_box_7 ⟨Nat.le_of_ble_eq_true rfl, Nat.le_of_ble_eq_true rfl⟩ (fun ce q9 H locs hP hD hS hce hcv hcl => ?_)
  have hsp : c.exceptionTable.toList = tableOf [(0, 12, 15, 13), (0, 12, 19, 19)] := vx_table (x := yL_box) B (hts _ List.mem_cons_self)
  refine vx_catch (own := RL) (name := "java/lang/IllegalArgumentException") hown [⟨0, 12, 15, 13⟩] ⟨0, 12, 19, 19⟩ [] hsp (fun z hz => by rw [List.mem_singleton.mp hz]; exact Or.inr ⟨by decide, "java/lang/IndexOutOfBoundsException", hts (.classLink RL 13 "java/lang/IndexOutOfBoundsException") (by decide +kernel), hnc⟩) (by decide) (by decide) (hts (.classLink RL 19 "java/lang/IllegalArgumentException") (by decide +kernel)) (va_Nw.use rfl hth.2.2.2.1) hce hcv hcl ?_
  refine lv_astore (lv' := [(5, .ref q9), (0, .ref h0), (1, .int (nI wh)), (2, .int i), (3, .int bb), (4, .ref oo)]) hx hb dL_box_19 hl (by decide) rfl (fun ls hl => ?_)
  refine lv_iconst (v := nI 2) hx hb dL_box_21 (by decide) ?_
  exact W.iret (v := nI 2) hx hb hr (fun t ht hW => ⟨⟨_, (fun _ _ => 0), rfl, rfl, by rw [ht]; exact hP, va_K.moved hW.alike hK2, hD⟩, hS.F ht⟩) hS.2.2 dL_box_22
set_option maxHeartbeats 4000000 in
set_option maxRecDepth 100000 in
theorem c_L_put1 (l : Launch) (D : va_G) (cI cJ : ClassId) (h0 kw sc so tp ct sr oo : Nat) (kb kr : Int32) (sz0 : Nat) (xa xb xc xd : Int32) (f : Nat → Int32) (g : Nat → Int64) (sz : Nat) (hz : sz0 ≤ 252) : Met l yL_put wsL_put ({ frames := 1, cells := 0, slots := 0, locals := 24 }) (va_Pc [.ref h0, .int xa, .int xb, .int xc, .int xd, .ref oo] (fun U => PW D [(cI, .int), (cJ, .long)] [(h0, .inr (0, [.ref kw, .int kb, .int kr, .ref sc, .ref so, .ref tp, .int (nI sz0), .ref ct, .ref sr])), (tp, .inl (cI, 256, .inl f)), (oo, .inl (cJ, 1, .inr (.inl g)))] sz U ∧ True)) (va_Qi (fun r9 (u : Nat → Nat → Int32) => r9 = nI 0) (fun u => BW D [(cI, .int), (cJ, .long)] (va_A [(h0, .inr (0, [.ref kw, .int kb, .int kr, .ref sc, .ref so, .ref tp, .int (nI sz0), .ref ct, .ref sr])), (tp, .inl (cI, 256, .inl f)), (oo, .inl (cJ, 1, .inr (.inl g)))] sz) [(h0, .inr (0, [.ref kw, .int kb, .int kr, .ref sc, .ref so, .ref tp, .int (nI (sz0 + 4)), .ref ct, .ref sr])), (tp, .inl (cI, 256, .inl (st4 f sz0 (xa, xb, xc, xd)))), (oo, .inl (cJ, 1, .inr (.inl (vp_updL g 0 (nI (sz0 + 4)).toInt64))))]) (va_A [(h0, .inr (0, [.ref kw, .int kb, .int kr, .ref sc, .ref so, .ref tp, .int (nI sz0), .ref ct, .ref sr])), (tp, .inl (cI, 256, .inl f)), (oo, .inl (cJ, 1, .inr (.inl g)))] sz)) 0 0 (va_A [(h0, .inr (0, [.ref kw, .int kb, .int kr, .ref sc, .ref so, .ref tp, .int (nI sz0), .ref ct, .ref sr])), (tp, .inl (cI, 256, .inl f)), (oo, .inl (cJ, 1, .inr (.inl g)))] sz) := by
  refine va_MetW (cc := cL_put) (maxL := 7) (ret := (some .int)) (hh := [(0, 14, 17, 25)]) (by decide) rfl ?_
  intro p e s m args below meth c s₁ B hml hv
  obtain ⟨rfl, ⟨hsz, hP, hK2, hD0⟩, -⟩ := hv
  have hK := hK2.sub (tys' := [(cI, .int)]) [0] rfl
  have hx := B.exec
  have hb := B.bytes
  have hr := B.returns
  have hts := atoms_spec (ws := wsL_put) B.pre
  have hown : s.vm.findClass RL = some m.cls := findClass_of_methodNamed B.named
  have hlocks := B.notSynchronized
  subst hsz
  have hD := hD0.self (sz := s.heap.size)
  generalize hAe : va_A [(h0, .inr (0, [.ref kw, .int kb, .int kr, .ref sc, .ref so, .ref tp, .int (nI sz0), .ref ct, .ref sr])), (tp, .inl (cI, 256, .inl f)), (oo, .inl (cJ, 1, .inr (.inl g)))] s.heap.size = A at hD ⊢
  have hA : ∀ q : Nat, s.heap.size ≤ q → A q := fun q h => by rw [← hAe]; exact Or.inr h
  have hS : va_S A s.heap s.heap [] := va_S.rf
  have hl := lv_entry ([.ref h0, .int xa, .int xb, .int xc, .int xd, .ref oo]) (n := 7) (Nat.le_of_ble_eq_true rfl)
  rw [lg_entry_eq]
  generalize (lg_sl ([.ref h0, .int xa, .int xb, .int xc, .int xd, .ref oo]) ++ List.replicate (7 - (lg_sl ([.ref h0, .int xa, .int xb, .int xc, .int xd, .ref oo])).length) Slot.unset).toArray = ls at hl ⊢
  have hl : lv_has ls 7 [(0, .ref h0), (1, .int xa), (2, .int xb), (3, .int xc), (4, .int xd), (5, .ref oo)] := hl
  refine lv_aload hx hb dL_put_0 (lv_at hl 5 rfl) ?_
  refine lv_iconst (v := nI 0) hx hb dL_put_2 (by decide) ?_
  refine lv_aload_n hx hb dL_put_3 rfl (lv_at hl 0 rfl) ?_
  refine lv_iload_n hx hb dL_put_4 rfl (lv_at hl 1 rfl) ?_
  refine lv_iload_n hx hb dL_put_5 rfl (lv_at hl 2 rfl) ?_
  refine lv_iload_n hx hb dL_put_6 rfl (lv_at hl 3 rfl) ?_
  refine lv_iload hx hb dL_put_7 (lv_at hl 4 rfl) ?_
  refine wk_VI (b := h0) (As := [.int xa, .int xb, .int xc, .int xd]) (rest := [.int (nI 0), .ref oo]) (wc := [(h0, .inr (0, [.ref kw, .int kb, .int kr, .ref sc, .ref so, .ref tp, .int (nI sz0), .ref ct, .ref sr])), (tp, .inl (cI, 256, .inl f))]) (wr := [(oo, .inl (cJ, 1, .inr (.inl g)))]) (w1 := fun (u1 : Nat → Nat → Int32) => [(h0, .inr (0, [.ref kw, .int kb, .int kr, .ref sc, .ref so, .ref tp, .int (nI (sz0 + 4)), .ref ct, .ref sr])), (tp, .inl (cI, 256, .inl (st4 f sz0 (xa, xb, xc, xd))))]) (w2 := fun (u1 : Nat → Nat → Int32) => [(h0, .inr (0, [.ref kw, .int kb, .int kr, .ref sc, .ref so, .ref tp, .int (nI (sz0 + 4)), .ref ct, .ref sr])), (tp, .inl (cI, 256, .inl (st4 f sz0 (xa, xb, xc, xd)))), (oo, .inl (cJ, 1, .inr (.inl g)))]) (ci := 0) (q0 := 0) ⟨hx, hb, hml, hown, hts⟩ (c_X0_put1 l D cI _ h0 kw sc so tp ct sr kb kr sz0 xa xb xc xd f hz) (cwV 4 hts gL_put_X0_put rfl rfl rfl (by decide +kernel) ⟨Nat.le_of_ble_eq_true rfl, Nat.le_of_ble_eq_true rfl⟩) (fun _ _ _ _ h => h) (fun _ _ _ _ => trivial) hK hP hD hS hA rfl rfl [0, 1] [2] rfl (by decide) rfl (by decide) (by decide) [1, 2, 0] (fun _ => rfl) (by decide) rfl hl.1 rfl (Nat.le_of_ble_eq_true rfl) dL_put_9 ⟨Nat.zero_le _, Nat.zero_le _⟩ (fun zu1 u1 H locs hu1 hP hD hS => ?_)
  have hP : va_P D vwCl [(h0, .inr (0, [.ref kw, .int kb, .int kr, .ref sc, .ref so, .ref tp, .int (nI (sz0 + 4)), .ref ct, .ref sr])), (tp, .inl (cI, 256, .inl (st4 f sz0 (xa, xb, xc, xd)))), (oo, .inl (cJ, 1, .inr (.inl g)))] H := hP
  have hD : va_D A [(h0, .inr (0, [.ref kw, .int kb, .int kr, .ref sc, .ref so, .ref tp, .int (nI (sz0 + 4)), .ref ct, .ref sr])), (tp, .inl (cI, 256, .inl (st4 f sz0 (xa, xb, xc, xd)))), (oo, .inl (cJ, 1, .inr (.inl g)))] := hD
  refine wk_i (y := nI (sz0 + 4)) hu1 ?_
  refine lv_i2l (v := (nI (sz0 + 4)).toInt64) hx hb dL_put_12 rfl ?_
  refine va_last hx hb hK2 hP hD hS 2 1 rfl rfl (i := nI 0) (x := (nI (sz0 + 4)).toInt64) (vp_in_nI (by decide) (by decide)) dL_put_13 (fun H locs hP hD hS => ?_)
  have hP : va_P D vwCl [(h0, .inr (0, [.ref kw, .int kb, .int kr, .ref sc, .ref so, .ref tp, .int (nI (sz0 + 4)), .ref ct, .ref sr])), (tp, .inl (cI, 256, .inl (st4 f sz0 (xa, xb, xc, xd)))), (oo, .inl (cJ, 1, .inr (.inl (vp_updL g 0 ((nI (sz0 + 4)).toInt64)))))] H := hP
  have hD : va_D A [(h0, .inr (0, [.ref kw, .int kb, .int kr, .ref sc, .ref so, .ref tp, .int (nI (sz0 + 4)), .ref ct, .ref sr])), (tp, .inl (cI, 256, .inl (st4 f sz0 (xa, xb, xc, xd)))), (oo, .inl (cJ, 1, .inr (.inl (vp_updL g 0 ((nI (sz0 + 4)).toInt64)))))] := hD
  refine lv_goto (tgt := 21) hx hb dL_put_14 (by decide) ?_
  refine lv_iconst (v := nI 0) hx hb dL_put_21 (by decide) ?_
  exact W.iret (v := nI 0) hx hb hr (fun t ht hW => ⟨⟨_, (fun _ _ => 0), rfl, rfl, by rw [ht]; exact hP, va_K.moved hW.alike hK2, hD⟩, hS.F ht⟩) hS.2.2 dL_put_22
set_option maxHeartbeats 4000000 in
set_option maxRecDepth 100000 in
theorem c_L_put0 (l : Launch) (hlt : l.stackTraces = false) (D : va_G) (cI cJ : ClassId) (sa : Nat) (h0 kw sc so tp ct sr oo : Nat) (kb kr : Int32) (sz0 : Nat) (xa xb xc xd : Int32) (g : Nat → Int64) (sz : Nat) (hz : 252 < sz0) (hz2 : sz0 ≤ 256) : Met l yL_put wsL_put ({ frames := 7, cells := 1, slots := 6, locals := 106 }) (va_Pc [.ref h0, .int xa, .int xb, .int xc, .int xd, .ref oo] (fun U => PW D [(cI, .int), (cJ, .long)] [(h0, .inr (0, [.ref kw, .int kb, .int kr, .ref sc, .ref so, .ref tp, .int (nI sz0), .ref ct, .ref sr])), (oo, .inl (cJ, 1, .inr (.inl g)))] sz U ∧ thw "java/lang/IllegalStateException" 90 "the tape is full" sa (va_A [(h0, .inr (0, [.ref kw, .int kb, .int kr, .ref sc, .ref so, .ref tp, .int (nI sz0), .ref ct, .ref sr])), (oo, .inl (cJ, 1, .inr (.inl g)))] sz) U U.heap)) (va_Qi (fun r9 (u : Nat → Nat → Int32) => r9 = nI 1) (fun u => BW D [(cI, .int), (cJ, .long)] (va_A [(h0, .inr (0, [.ref kw, .int kb, .int kr, .ref sc, .ref so, .ref tp, .int (nI sz0), .ref ct, .ref sr])), (oo, .inl (cJ, 1, .inr (.inl g)))] sz) [(h0, .inr (0, [.ref kw, .int kb, .int kr, .ref sc, .ref so, .ref tp, .int (nI sz0), .ref ct, .ref sr])), (oo, .inl (cJ, 1, .inr (.inl g)))]) (va_A [(h0, .inr (0, [.ref kw, .int kb, .int kr, .ref sc, .ref so, .ref tp, .int (nI sz0), .ref ct, .ref sr])), (oo, .inl (cJ, 1, .inr (.inl g)))] sz)) 1 6 (va_A [(h0, .inr (0, [.ref kw, .int kb, .int kr, .ref sc, .ref so, .ref tp, .int (nI sz0), .ref ct, .ref sr])), (oo, .inl (cJ, 1, .inr (.inl g)))] sz) := by
  refine va_MetW (cc := cL_put) (maxL := 7) (ret := (some .int)) (hh := [(0, 14, 17, 25)]) (by decide) rfl ?_
  intro p e s m args below meth c s₁ B hml hv
  obtain ⟨rfl, ⟨hsz, hP, hK2, hD0⟩, hth⟩ := hv
  have hK := hK2.sub (tys' := [(cI, .int)]) [0] rfl
  have hx := B.exec
  have hb := B.bytes
  have hr := B.returns
  have hts := atoms_spec (ws := wsL_put) B.pre
  have hown : s.vm.findClass RL = some m.cls := findClass_of_methodNamed B.named
  have hlocks := B.notSynchronized
  subst hsz
  have hD := hD0.self (sz := s.heap.size)
  generalize hAe : va_A [(h0, .inr (0, [.ref kw, .int kb, .int kr, .ref sc, .ref so, .ref tp, .int (nI sz0), .ref ct, .ref sr])), (oo, .inl (cJ, 1, .inr (.inl g)))] s.heap.size = A at hth hD ⊢
  have hA : ∀ q : Nat, s.heap.size ≤ q → A q := fun q h => by rw [← hAe]; exact Or.inr h
  have hS : va_S A s.heap s.heap [] := va_S.rf
  have hl := lv_entry ([.ref h0, .int xa, .int xb, .int xc, .int xd, .ref oo]) (n := 7) (Nat.le_of_ble_eq_true rfl)
  rw [lg_entry_eq]
  generalize (lg_sl ([.ref h0, .int xa, .int xb, .int xc, .int xd, .ref oo]) ++ List.replicate (7 - (lg_sl ([.ref h0, .int xa, .int xb, .int xc, .int xd, .ref oo])).length) Slot.unset).toArray = ls at hl ⊢
  have hl : lv_has ls 7 [(0, .ref h0), (1, .int xa), (2, .int xb), (3, .int xc), (4, .int xd), (5, .ref oo)] := hl
  refine lv_aload hx hb dL_put_0 (lv_at hl 5 rfl) ?_
  refine lv_iconst (v := nI 0) hx hb dL_put_2 (by decide) ?_
  refine lv_aload_n hx hb dL_put_3 rfl (lv_at hl 0 rfl) ?_
  refine lv_iload_n hx hb dL_put_4 rfl (lv_at hl 1 rfl) ?_
  refine lv_iload_n hx hb dL_put_5 rfl (lv_at hl 2 rfl) ?_
  refine lv_iload_n hx hb dL_put_6 rfl (lv_at hl 3 rfl) ?_
  refine lv_iload hx hb dL_put_7 (lv_at hl 4 rfl) ?_
  refine wk_Vxi (b := h0) (As := [.int xa, .int xb, .int xc, .int xd]) (rest := [.int (nI 0), .ref oo]) (wc := [(h0, .inr (0, [.ref kw, .int kb, .int kr, .ref sc, .ref so, .ref tp, .int (nI sz0), .ref ct, .ref sr]))]) (wr := [(oo, .inl (cJ, 1, .inr (.inl g)))]) (ci := 0) (q0 := 0) ⟨hx, hb, hml, hown, hts⟩ (c_X0_put0 l hlt D cI sa h0 kw sc so tp ct sr kb kr sz0 xa xb xc xd _ hz hz2) (cwV 4 hts gL_put_X0_put rfl rfl rfl (by decide +kernel) ⟨Nat.le_of_ble_eq_true rfl, Nat.le_of_ble_eq_true rfl⟩) (fun V g mk a h => thw.call g mk a h) (fun hF V hU hW => hth.give hS hF hU hW) hK hP hD hS hA rfl rfl [0] [1] rfl (by decide) rfl (by decide) (by decide) [1, 0] rfl (by decide) rfl hl.1 rfl (Nat.le_of_ble_eq_true rfl) dL_put_9 ⟨Nat.le_of_ble_eq_true rfl, Nat.le_of_ble_eq_true rfl⟩ (fun ce q9 H locs hP hD hS hce hcv hcl => ?_)
  have hsp : c.exceptionTable.toList = tableOf [(0, 14, 17, 25)] := vx_table (x := yL_put) B (hts _ List.mem_cons_self)
  refine vx_catch (own := RL) (name := "java/lang/IllegalStateException") hown [] ⟨0, 14, 17, 25⟩ [] hsp (fun z hz => absurd hz List.not_mem_nil) (by decide) (by decide) (hts (.classLink RL 25 "java/lang/IllegalStateException") (by decide +kernel)) (va_Nw.use rfl hth.2.2.2.1) hce hcv hcl ?_
  refine lv_astore (lv' := [(6, .ref q9), (0, .ref h0), (1, .int xa), (2, .int xb), (3, .int xc), (4, .int xd), (5, .ref oo)]) hx hb dL_put_17 hl (by decide) rfl (fun ls hl => ?_)
  refine lv_iconst (v := nI 1) hx hb dL_put_19 (by decide) ?_
  exact W.iret (v := nI 1) hx hb hr (fun t ht hW => ⟨⟨_, (fun _ _ => 0), rfl, rfl, by rw [ht]; exact hP, va_K.moved hW.alike hK2, hD⟩, hS.F ht⟩) hS.2.2 dL_put_20
set_option maxHeartbeats 4000000 in
set_option maxRecDepth 100000 in
theorem c_L_cut1 (l : Launch) (D : va_G) (cI cJ : ClassId) (h0 kw sc so tp ct sr oo : Nat) (kb kr : Int32) (sz0 k : Nat) (g : Nat → Int64) (sz : Nat) (hz : sz0 ≤ 256) (hk : k ≤ sz0) : Met l yL_cut wsL_cut ({ frames := 1, cells := 0, slots := 0, locals := 21 }) (va_Pc [.ref h0, .int (nI k), .ref oo] (fun U => PW D [(cI, .int), (cJ, .long)] [(h0, .inr (0, [.ref kw, .int kb, .int kr, .ref sc, .ref so, .ref tp, .int (nI sz0), .ref ct, .ref sr])), (oo, .inl (cJ, 1, .inr (.inl g)))] sz U ∧ True)) (va_Qi (fun r9 (u : Nat → Nat → Int32) => r9 = nI 0) (fun u => BW D [(cI, .int), (cJ, .long)] (va_A [(h0, .inr (0, [.ref kw, .int kb, .int kr, .ref sc, .ref so, .ref tp, .int (nI sz0), .ref ct, .ref sr])), (oo, .inl (cJ, 1, .inr (.inl g)))] sz) [(h0, .inr (0, [.ref kw, .int kb, .int kr, .ref sc, .ref so, .ref tp, .int (nI k), .ref ct, .ref sr])), (oo, .inl (cJ, 1, .inr (.inl (vp_updL g 0 (nI k).toInt64))))]) (va_A [(h0, .inr (0, [.ref kw, .int kb, .int kr, .ref sc, .ref so, .ref tp, .int (nI sz0), .ref ct, .ref sr])), (oo, .inl (cJ, 1, .inr (.inl g)))] sz)) 0 0 (va_A [(h0, .inr (0, [.ref kw, .int kb, .int kr, .ref sc, .ref so, .ref tp, .int (nI sz0), .ref ct, .ref sr])), (oo, .inl (cJ, 1, .inr (.inl g)))] sz) := by
  refine va_MetW (cc := cL_cut) (maxL := 4) (ret := (some .int)) (hh := [(0, 9, 12, 19)]) (by decide) rfl ?_
  intro p e s m args below meth c s₁ B hml hv
  obtain ⟨rfl, ⟨hsz, hP, hK2, hD0⟩, -⟩ := hv
  have hK := hK2.sub (tys' := [(cI, .int)]) [0] rfl
  have hx := B.exec
  have hb := B.bytes
  have hr := B.returns
  have hts := atoms_spec (ws := wsL_cut) B.pre
  have hown : s.vm.findClass RL = some m.cls := findClass_of_methodNamed B.named
  have hlocks := B.notSynchronized
  subst hsz
  have hD := hD0.self (sz := s.heap.size)
  generalize hAe : va_A [(h0, .inr (0, [.ref kw, .int kb, .int kr, .ref sc, .ref so, .ref tp, .int (nI sz0), .ref ct, .ref sr])), (oo, .inl (cJ, 1, .inr (.inl g)))] s.heap.size = A at hD ⊢
  have hA : ∀ q : Nat, s.heap.size ≤ q → A q := fun q h => by rw [← hAe]; exact Or.inr h
  have hS : va_S A s.heap s.heap [] := va_S.rf
  have hl := lv_entry ([.ref h0, .int (nI k), .ref oo]) (n := 4) (Nat.le_of_ble_eq_true rfl)
  rw [lg_entry_eq]
  generalize (lg_sl ([.ref h0, .int (nI k), .ref oo]) ++ List.replicate (4 - (lg_sl ([.ref h0, .int (nI k), .ref oo])).length) Slot.unset).toArray = ls at hl ⊢
  have hl : lv_has ls 4 [(0, .ref h0), (1, .int (nI k)), (2, .ref oo)] := hl
  refine lv_aload_n hx hb dL_cut_0 rfl (lv_at hl 2 rfl) ?_
  refine lv_iconst (v := nI 0) hx hb dL_cut_1 (by decide) ?_
  refine lv_aload_n hx hb dL_cut_2 rfl (lv_at hl 0 rfl) ?_
  refine lv_iload_n hx hb dL_cut_3 rfl (lv_at hl 1 rfl) ?_
  refine wk_VI (b := h0) (As := [.int (nI k)]) (rest := [.int (nI 0), .ref oo]) (wc := [(h0, .inr (0, [.ref kw, .int kb, .int kr, .ref sc, .ref so, .ref tp, .int (nI sz0), .ref ct, .ref sr]))]) (wr := [(oo, .inl (cJ, 1, .inr (.inl g)))]) (w1 := fun (u1 : Nat → Nat → Int32) => [(h0, .inr (0, [.ref kw, .int kb, .int kr, .ref sc, .ref so, .ref tp, .int (nI k), .ref ct, .ref sr]))]) (w2 := fun (u1 : Nat → Nat → Int32) => [(h0, .inr (0, [.ref kw, .int kb, .int kr, .ref sc, .ref so, .ref tp, .int (nI k), .ref ct, .ref sr])), (oo, .inl (cJ, 1, .inr (.inl g)))]) (ci := 0) (q0 := 0) ⟨hx, hb, hml, hown, hts⟩ (c_X0_cut1 l D cI _ h0 kw sc so tp ct sr kb kr sz0 k hz hk) (cwV 1 hts gL_cut_X0_cut rfl rfl rfl (by decide +kernel) ⟨Nat.le_of_ble_eq_true rfl, Nat.le_of_ble_eq_true rfl⟩) (fun _ _ _ _ h => h) (fun _ _ _ _ => trivial) hK hP hD hS hA rfl rfl [0] [1] rfl (by decide) rfl (by decide) (by decide) [1, 0] (fun _ => rfl) (by decide) rfl hl.1 rfl (Nat.le_of_ble_eq_true rfl) dL_cut_4 ⟨Nat.zero_le _, Nat.zero_le _⟩ (fun zu1 u1 H locs hu1 hP hD hS => ?_)
  have hP : va_P D vwCl [(h0, .inr (0, [.ref kw, .int kb, .int kr, .ref sc, .ref so, .ref tp, .int (nI k), .ref ct, .ref sr])), (oo, .inl (cJ, 1, .inr (.inl g)))] H := hP
  have hD : va_D A [(h0, .inr (0, [.ref kw, .int kb, .int kr, .ref sc, .ref so, .ref tp, .int (nI k), .ref ct, .ref sr])), (oo, .inl (cJ, 1, .inr (.inl g)))] := hD
  refine wk_i (y := nI k) hu1 ?_
  refine lv_i2l (v := (nI k).toInt64) hx hb dL_cut_7 rfl ?_
  refine va_last hx hb hK2 hP hD hS 1 1 rfl rfl (i := nI 0) (x := (nI k).toInt64) (vp_in_nI (by decide) (by decide)) dL_cut_8 (fun H locs hP hD hS => ?_)
  have hP : va_P D vwCl [(h0, .inr (0, [.ref kw, .int kb, .int kr, .ref sc, .ref so, .ref tp, .int (nI k), .ref ct, .ref sr])), (oo, .inl (cJ, 1, .inr (.inl (vp_updL g 0 ((nI k).toInt64)))))] H := hP
  have hD : va_D A [(h0, .inr (0, [.ref kw, .int kb, .int kr, .ref sc, .ref so, .ref tp, .int (nI k), .ref ct, .ref sr])), (oo, .inl (cJ, 1, .inr (.inl (vp_updL g 0 ((nI k).toInt64)))))] := hD
  refine lv_goto (tgt := 15) hx hb dL_cut_9 (by decide) ?_
  refine lv_iconst (v := nI 0) hx hb dL_cut_15 (by decide) ?_
  exact W.iret (v := nI 0) hx hb hr (fun t ht hW => ⟨⟨_, (fun _ _ => 0), rfl, rfl, by rw [ht]; exact hP, va_K.moved hW.alike hK2, hD⟩, hS.F ht⟩) hS.2.2 dL_cut_16
set_option maxHeartbeats 4000000 in
set_option maxRecDepth 100000 in
theorem c_L_cut0 (l : Launch) (hlt : l.stackTraces = false) (D : va_G) (cI cJ : ClassId) (sa : Nat) (h0 kw sc so tp ct sr oo : Nat) (kb kr : Int32) (sz0 : Nat) (i : Int32) (g : Nat → Int64) (sz : Nat) (hbad : i < nI 0 ∨ (¬ i < nI 0 ∧ ¬ i ≤ nI sz0)) : Met l yL_cut wsL_cut ({ frames := 7, cells := 1, slots := 6, locals := 103 }) (va_Pc [.ref h0, .int i, .ref oo] (fun U => PW D [(cI, .int), (cJ, .long)] [(h0, .inr (0, [.ref kw, .int kb, .int kr, .ref sc, .ref so, .ref tp, .int (nI sz0), .ref ct, .ref sr])), (oo, .inl (cJ, 1, .inr (.inl g)))] sz U ∧ thw "java/lang/IllegalArgumentException" 93 "the tape has no such length to keep" sa (va_A [(h0, .inr (0, [.ref kw, .int kb, .int kr, .ref sc, .ref so, .ref tp, .int (nI sz0), .ref ct, .ref sr])), (oo, .inl (cJ, 1, .inr (.inl g)))] sz) U U.heap)) (va_Qi (fun r9 (u : Nat → Nat → Int32) => r9 = nI 1) (fun u => BW D [(cI, .int), (cJ, .long)] (va_A [(h0, .inr (0, [.ref kw, .int kb, .int kr, .ref sc, .ref so, .ref tp, .int (nI sz0), .ref ct, .ref sr])), (oo, .inl (cJ, 1, .inr (.inl g)))] sz) [(h0, .inr (0, [.ref kw, .int kb, .int kr, .ref sc, .ref so, .ref tp, .int (nI sz0), .ref ct, .ref sr])), (oo, .inl (cJ, 1, .inr (.inl g)))]) (va_A [(h0, .inr (0, [.ref kw, .int kb, .int kr, .ref sc, .ref so, .ref tp, .int (nI sz0), .ref ct, .ref sr])), (oo, .inl (cJ, 1, .inr (.inl g)))] sz)) 1 6 (va_A [(h0, .inr (0, [.ref kw, .int kb, .int kr, .ref sc, .ref so, .ref tp, .int (nI sz0), .ref ct, .ref sr])), (oo, .inl (cJ, 1, .inr (.inl g)))] sz) := by
  refine va_MetW (cc := cL_cut) (maxL := 4) (ret := (some .int)) (hh := [(0, 9, 12, 19)]) (by decide) rfl ?_
  intro p e s m args below meth c s₁ B hml hv
  obtain ⟨rfl, ⟨hsz, hP, hK2, hD0⟩, hth⟩ := hv
  have hK := hK2.sub (tys' := [(cI, .int)]) [0] rfl
  have hx := B.exec
  have hb := B.bytes
  have hr := B.returns
  have hts := atoms_spec (ws := wsL_cut) B.pre
  have hown : s.vm.findClass RL = some m.cls := findClass_of_methodNamed B.named
  have hlocks := B.notSynchronized
  subst hsz
  have hD := hD0.self (sz := s.heap.size)
  generalize hAe : va_A [(h0, .inr (0, [.ref kw, .int kb, .int kr, .ref sc, .ref so, .ref tp, .int (nI sz0), .ref ct, .ref sr])), (oo, .inl (cJ, 1, .inr (.inl g)))] s.heap.size = A at hth hD ⊢
  have hA : ∀ q : Nat, s.heap.size ≤ q → A q := fun q h => by rw [← hAe]; exact Or.inr h
  have hS : va_S A s.heap s.heap [] := va_S.rf
  have hl := lv_entry ([.ref h0, .int i, .ref oo]) (n := 4) (Nat.le_of_ble_eq_true rfl)
  rw [lg_entry_eq]
  generalize (lg_sl ([.ref h0, .int i, .ref oo]) ++ List.replicate (4 - (lg_sl ([.ref h0, .int i, .ref oo])).length) Slot.unset).toArray = ls at hl ⊢
  have hl : lv_has ls 4 [(0, .ref h0), (1, .int i), (2, .ref oo)] := hl
  refine lv_aload_n hx hb dL_cut_0 rfl (lv_at hl 2 rfl) ?_
  refine lv_iconst (v := nI 0) hx hb dL_cut_1 (by decide) ?_
  refine lv_aload_n hx hb dL_cut_2 rfl (lv_at hl 0 rfl) ?_
  refine lv_iload_n hx hb dL_cut_3 rfl (lv_at hl 1 rfl) ?_
  refine wk_Vxi (b := h0) (As := [.int i]) (rest := [.int (nI 0), .ref oo]) (wc := [(h0, .inr (0, [.ref kw, .int kb, .int kr, .ref sc, .ref so, .ref tp, .int (nI sz0), .ref ct, .ref sr]))]) (wr := [(oo, .inl (cJ, 1, .inr (.inl g)))]) (ci := 0) (q0 := 0) ⟨hx, hb, hml, hown, hts⟩ (c_X0_cut0 l hlt D cI sa h0 kw sc so tp ct sr kb kr sz0 i _ hbad) (cwV 1 hts gL_cut_X0_cut rfl rfl rfl (by decide +kernel) ⟨Nat.le_of_ble_eq_true rfl, Nat.le_of_ble_eq_true rfl⟩) (fun V g mk a h => thw.call g mk a h) (fun hF V hU hW => hth.give hS hF hU hW) hK hP hD hS hA rfl rfl [0] [1] rfl (by decide) rfl (by decide) (by decide) [1, 0] rfl (by decide) rfl hl.1 rfl (Nat.le_of_ble_eq_true rfl) dL_cut_4 ⟨Nat.le_of_ble_eq_true rfl, Nat.le_of_ble_eq_true rfl⟩ (fun ce q9 H locs hP hD hS hce hcv hcl => ?_)
  have hsp : c.exceptionTable.toList = tableOf [(0, 9, 12, 19)] := vx_table (x := yL_cut) B (hts _ List.mem_cons_self)
  refine vx_catch (own := RL) (name := "java/lang/IllegalArgumentException") hown [] ⟨0, 9, 12, 19⟩ [] hsp (fun z hz => absurd hz List.not_mem_nil) (by decide) (by decide) (hts (.classLink RL 19 "java/lang/IllegalArgumentException") (by decide +kernel)) (va_Nw.use rfl hth.2.2.2.1) hce hcv hcl ?_
  refine lv_astore_n (lv' := [(3, .ref q9), (0, .ref h0), (1, .int i), (2, .ref oo)]) hx hb dL_cut_12 rfl hl (by decide) rfl (fun ls hl => ?_)
  refine lv_iconst (v := nI 1) hx hb dL_cut_13 (by decide) ?_
  exact W.iret (v := nI 1) hx hb hr (fun t ht hW => ⟨⟨_, (fun _ _ => 0), rfl, rfl, by rw [ht]; exact hP, va_K.moved hW.alike hK2, hD⟩, hS.F ht⟩) hS.2.2 dL_cut_14
set_option maxHeartbeats 4000000 in
set_option maxRecDepth 100000 in
theorem c_L_word1 (l : Launch) (D : va_G) (cI cJ : ClassId) (h0 kw sc so tp ct sr oo : Nat) (kb kr : Int32) (sz0 k : Nat) (f : Nat → Int32) (g : Nat → Int64) (sz : Nat) (hz : sz0 ≤ 256) (hk : k < sz0) : Met l yL_word wsL_word ({ frames := 1, cells := 0, slots := 0, locals := 21 }) (va_Pc [.ref h0, .int (nI k), .ref oo] (fun U => PW D [(cI, .int), (cJ, .long)] [(h0, .inr (0, [.ref kw, .int kb, .int kr, .ref sc, .ref so, .ref tp, .int (nI sz0), .ref ct, .ref sr])), (tp, .inl (cI, 256, .inl f)), (oo, .inl (cJ, 1, .inr (.inl g)))] sz U ∧ True)) (va_Qi (fun r9 (u : Nat → Nat → Int32) => r9 = nI 0) (fun u => BW D [(cI, .int), (cJ, .long)] (va_A [(h0, .inr (0, [.ref kw, .int kb, .int kr, .ref sc, .ref so, .ref tp, .int (nI sz0), .ref ct, .ref sr])), (tp, .inl (cI, 256, .inl f)), (oo, .inl (cJ, 1, .inr (.inl g)))] sz) [(h0, .inr (0, [.ref kw, .int kb, .int kr, .ref sc, .ref so, .ref tp, .int (nI sz0), .ref ct, .ref sr])), (tp, .inl (cI, 256, .inl f)), (oo, .inl (cJ, 1, .inr (.inl (vp_updL g 0 (f k).toInt64))))]) (va_A [(h0, .inr (0, [.ref kw, .int kb, .int kr, .ref sc, .ref so, .ref tp, .int (nI sz0), .ref ct, .ref sr])), (tp, .inl (cI, 256, .inl f)), (oo, .inl (cJ, 1, .inr (.inl g)))] sz)) 0 0 (va_A [(h0, .inr (0, [.ref kw, .int kb, .int kr, .ref sc, .ref so, .ref tp, .int (nI sz0), .ref ct, .ref sr])), (tp, .inl (cI, 256, .inl f)), (oo, .inl (cJ, 1, .inr (.inl g)))] sz) := by
  refine va_MetW (cc := cL_word) (maxL := 4) (ret := (some .int)) (hh := [(0, 9, 12, 13)]) (by decide) rfl ?_
  intro p e s m args below meth c s₁ B hml hv
  obtain ⟨rfl, ⟨hsz, hP, hK2, hD0⟩, -⟩ := hv
  have hK := hK2.sub (tys' := [(cI, .int)]) [0] rfl
  have hx := B.exec
  have hb := B.bytes
  have hr := B.returns
  have hts := atoms_spec (ws := wsL_word) B.pre
  have hown : s.vm.findClass RL = some m.cls := findClass_of_methodNamed B.named
  have hlocks := B.notSynchronized
  subst hsz
  have hD := hD0.self (sz := s.heap.size)
  generalize hAe : va_A [(h0, .inr (0, [.ref kw, .int kb, .int kr, .ref sc, .ref so, .ref tp, .int (nI sz0), .ref ct, .ref sr])), (tp, .inl (cI, 256, .inl f)), (oo, .inl (cJ, 1, .inr (.inl g)))] s.heap.size = A at hD ⊢
  have hA : ∀ q : Nat, s.heap.size ≤ q → A q := fun q h => by rw [← hAe]; exact Or.inr h
  have hS : va_S A s.heap s.heap [] := va_S.rf
  have hl := lv_entry ([.ref h0, .int (nI k), .ref oo]) (n := 4) (Nat.le_of_ble_eq_true rfl)
  rw [lg_entry_eq]
  generalize (lg_sl ([.ref h0, .int (nI k), .ref oo]) ++ List.replicate (4 - (lg_sl ([.ref h0, .int (nI k), .ref oo])).length) Slot.unset).toArray = ls at hl ⊢
  have hl : lv_has ls 4 [(0, .ref h0), (1, .int (nI k)), (2, .ref oo)] := hl
  refine lv_aload_n hx hb dL_word_0 rfl (lv_at hl 2 rfl) ?_
  refine lv_iconst (v := nI 0) hx hb dL_word_1 (by decide) ?_
  refine lv_aload_n hx hb dL_word_2 rfl (lv_at hl 0 rfl) ?_
  refine lv_iload_n hx hb dL_word_3 rfl (lv_at hl 1 rfl) ?_
  refine wk_VI (b := h0) (As := [.int (nI k)]) (rest := [.int (nI 0), .ref oo]) (wc := [(h0, .inr (0, [.ref kw, .int kb, .int kr, .ref sc, .ref so, .ref tp, .int (nI sz0), .ref ct, .ref sr])), (tp, .inl (cI, 256, .inl f))]) (wr := [(oo, .inl (cJ, 1, .inr (.inl g)))]) (w1 := fun (u1 : Nat → Nat → Int32) => [(h0, .inr (0, [.ref kw, .int kb, .int kr, .ref sc, .ref so, .ref tp, .int (nI sz0), .ref ct, .ref sr])), (tp, .inl (cI, 256, .inl f))]) (w2 := fun (u1 : Nat → Nat → Int32) => [(h0, .inr (0, [.ref kw, .int kb, .int kr, .ref sc, .ref so, .ref tp, .int (nI sz0), .ref ct, .ref sr])), (tp, .inl (cI, 256, .inl f)), (oo, .inl (cJ, 1, .inr (.inl g)))]) (ci := 0) (q0 := 0) ⟨hx, hb, hml, hown, hts⟩ (c_X0_word1 l D cI _ h0 kw sc so tp ct sr kb kr sz0 k f hz hk) (cwV 1 hts gL_word_X0_word rfl rfl rfl (by decide +kernel) ⟨Nat.le_of_ble_eq_true rfl, Nat.le_of_ble_eq_true rfl⟩) (fun _ _ _ _ h => h) (fun _ _ _ _ => trivial) hK hP hD hS hA rfl rfl [0, 1] [2] rfl (by decide) rfl (by decide) (by decide) [1, 2, 0] (fun _ => rfl) (by decide) rfl hl.1 rfl (Nat.le_of_ble_eq_true rfl) dL_word_4 ⟨Nat.zero_le _, Nat.zero_le _⟩ (fun zu1 u1 H locs hu1 hP hD hS => ?_)
  have hP : va_P D vwCl [(h0, .inr (0, [.ref kw, .int kb, .int kr, .ref sc, .ref so, .ref tp, .int (nI sz0), .ref ct, .ref sr])), (tp, .inl (cI, 256, .inl f)), (oo, .inl (cJ, 1, .inr (.inl g)))] H := hP
  have hD : va_D A [(h0, .inr (0, [.ref kw, .int kb, .int kr, .ref sc, .ref so, .ref tp, .int (nI sz0), .ref ct, .ref sr])), (tp, .inl (cI, 256, .inl f)), (oo, .inl (cJ, 1, .inr (.inl g)))] := hD
  refine wk_i (y := f k) hu1 ?_
  refine lv_i2l (v := (f k).toInt64) hx hb dL_word_7 rfl ?_
  refine va_last hx hb hK2 hP hD hS 2 1 rfl rfl (i := nI 0) (x := (f k).toInt64) (vp_in_nI (by decide) (by decide)) dL_word_8 (fun H locs hP hD hS => ?_)
  have hP : va_P D vwCl [(h0, .inr (0, [.ref kw, .int kb, .int kr, .ref sc, .ref so, .ref tp, .int (nI sz0), .ref ct, .ref sr])), (tp, .inl (cI, 256, .inl f)), (oo, .inl (cJ, 1, .inr (.inl (vp_updL g 0 ((f k).toInt64)))))] H := hP
  have hD : va_D A [(h0, .inr (0, [.ref kw, .int kb, .int kr, .ref sc, .ref so, .ref tp, .int (nI sz0), .ref ct, .ref sr])), (tp, .inl (cI, 256, .inl f)), (oo, .inl (cJ, 1, .inr (.inl (vp_updL g 0 ((f k).toInt64)))))] := hD
  refine lv_goto (tgt := 15) hx hb dL_word_9 (by decide) ?_
  refine lv_iconst (v := nI 0) hx hb dL_word_15 (by decide) ?_
  exact W.iret (v := nI 0) hx hb hr (fun t ht hW => ⟨⟨_, (fun _ _ => 0), rfl, rfl, by rw [ht]; exact hP, va_K.moved hW.alike hK2, hD⟩, hS.F ht⟩) hS.2.2 dL_word_16
set_option maxHeartbeats 4000000 in
set_option maxRecDepth 100000 in
theorem c_L_word0 (l : Launch) (hlt : l.stackTraces = false) (D : va_G) (cI cJ : ClassId) (sa : Nat) (h0 kw sc so tp ct sr oo : Nat) (kb kr : Int32) (sz0 : Nat) (i : Int32) (g : Nat → Int64) (sz : Nat) (hbad : i < nI 0 ∨ (¬ i < nI 0 ∧ ¬ i < nI sz0)) : Met l yL_word wsL_word ({ frames := 7, cells := 1, slots := 6, locals := 103 }) (va_Pc [.ref h0, .int i, .ref oo] (fun U => PW D [(cI, .int), (cJ, .long)] [(h0, .inr (0, [.ref kw, .int kb, .int kr, .ref sc, .ref so, .ref tp, .int (nI sz0), .ref ct, .ref sr])), (oo, .inl (cJ, 1, .inr (.inl g)))] sz U ∧ thw "java/lang/IndexOutOfBoundsException" 95 "no such word of the tape" sa (va_A [(h0, .inr (0, [.ref kw, .int kb, .int kr, .ref sc, .ref so, .ref tp, .int (nI sz0), .ref ct, .ref sr])), (oo, .inl (cJ, 1, .inr (.inl g)))] sz) U U.heap)) (va_Qi (fun r9 (u : Nat → Nat → Int32) => r9 = nI 1) (fun u => BW D [(cI, .int), (cJ, .long)] (va_A [(h0, .inr (0, [.ref kw, .int kb, .int kr, .ref sc, .ref so, .ref tp, .int (nI sz0), .ref ct, .ref sr])), (oo, .inl (cJ, 1, .inr (.inl g)))] sz) [(h0, .inr (0, [.ref kw, .int kb, .int kr, .ref sc, .ref so, .ref tp, .int (nI sz0), .ref ct, .ref sr])), (oo, .inl (cJ, 1, .inr (.inl g)))]) (va_A [(h0, .inr (0, [.ref kw, .int kb, .int kr, .ref sc, .ref so, .ref tp, .int (nI sz0), .ref ct, .ref sr])), (oo, .inl (cJ, 1, .inr (.inl g)))] sz)) 1 6 (va_A [(h0, .inr (0, [.ref kw, .int kb, .int kr, .ref sc, .ref so, .ref tp, .int (nI sz0), .ref ct, .ref sr])), (oo, .inl (cJ, 1, .inr (.inl g)))] sz) := by
  refine va_MetW (cc := cL_word) (maxL := 4) (ret := (some .int)) (hh := [(0, 9, 12, 13)]) (by decide) rfl ?_
  intro p e s m args below meth c s₁ B hml hv
  obtain ⟨rfl, ⟨hsz, hP, hK2, hD0⟩, hth⟩ := hv
  have hK := hK2.sub (tys' := [(cI, .int)]) [0] rfl
  have hx := B.exec
  have hb := B.bytes
  have hr := B.returns
  have hts := atoms_spec (ws := wsL_word) B.pre
  have hown : s.vm.findClass RL = some m.cls := findClass_of_methodNamed B.named
  have hlocks := B.notSynchronized
  subst hsz
  have hD := hD0.self (sz := s.heap.size)
  generalize hAe : va_A [(h0, .inr (0, [.ref kw, .int kb, .int kr, .ref sc, .ref so, .ref tp, .int (nI sz0), .ref ct, .ref sr])), (oo, .inl (cJ, 1, .inr (.inl g)))] s.heap.size = A at hth hD ⊢
  have hA : ∀ q : Nat, s.heap.size ≤ q → A q := fun q h => by rw [← hAe]; exact Or.inr h
  have hS : va_S A s.heap s.heap [] := va_S.rf
  have hl := lv_entry ([.ref h0, .int i, .ref oo]) (n := 4) (Nat.le_of_ble_eq_true rfl)
  rw [lg_entry_eq]
  generalize (lg_sl ([.ref h0, .int i, .ref oo]) ++ List.replicate (4 - (lg_sl ([.ref h0, .int i, .ref oo])).length) Slot.unset).toArray = ls at hl ⊢
  have hl : lv_has ls 4 [(0, .ref h0), (1, .int i), (2, .ref oo)] := hl
  refine lv_aload_n hx hb dL_word_0 rfl (lv_at hl 2 rfl) ?_
  refine lv_iconst (v := nI 0) hx hb dL_word_1 (by decide) ?_
  refine lv_aload_n hx hb dL_word_2 rfl (lv_at hl 0 rfl) ?_
  refine lv_iload_n hx hb dL_word_3 rfl (lv_at hl 1 rfl) ?_
  refine wk_Vxi (b := h0) (As := [.int i]) (rest := [.int (nI 0), .ref oo]) (wc := [(h0, .inr (0, [.ref kw, .int kb, .int kr, .ref sc, .ref so, .ref tp, .int (nI sz0), .ref ct, .ref sr]))]) (wr := [(oo, .inl (cJ, 1, .inr (.inl g)))]) (ci := 0) (q0 := 0) ⟨hx, hb, hml, hown, hts⟩ (c_X0_word0 l hlt D cI sa h0 kw sc so tp ct sr kb kr sz0 i _ hbad) (cwV 1 hts gL_word_X0_word rfl rfl rfl (by decide +kernel) ⟨Nat.le_of_ble_eq_true rfl, Nat.le_of_ble_eq_true rfl⟩) (fun V g mk a h => thw.call g mk a h) (fun hF V hU hW => hth.give hS hF hU hW) hK hP hD hS hA rfl rfl [0] [1] rfl (by decide) rfl (by decide) (by decide) [1, 0] rfl (by decide) rfl hl.1 rfl (Nat.le_of_ble_eq_true rfl) dL_word_4 ⟨Nat.le_of_ble_eq_true rfl, Nat.le_of_ble_eq_true rfl⟩ (fun ce q9 H locs hP hD hS hce hcv hcl => ?_)
  have hsp : c.exceptionTable.toList = tableOf [(0, 9, 12, 13)] := vx_table (x := yL_word) B (hts _ List.mem_cons_self)
  refine vx_catch (own := RL) (name := "java/lang/IndexOutOfBoundsException") hown [] ⟨0, 9, 12, 13⟩ [] hsp (fun z hz => absurd hz List.not_mem_nil) (by decide) (by decide) (hts (.classLink RL 13 "java/lang/IndexOutOfBoundsException") (by decide +kernel)) (va_Nw.use rfl hth.2.2.2.1) hce hcv hcl ?_
  refine lv_astore_n (lv' := [(3, .ref q9), (0, .ref h0), (1, .int i), (2, .ref oo)]) hx hb dL_word_12 rfl hl (by decide) rfl (fun ls hl => ?_)
  refine lv_iconst (v := nI 1) hx hb dL_word_13 (by decide) ?_
  exact W.iret (v := nI 1) hx hb hr (fun t ht hW => ⟨⟨_, (fun _ _ => 0), rfl, rfl, by rw [ht]; exact hP, va_K.moved hW.alike hK2, hD⟩, hS.F ht⟩) hS.2.2 dL_word_14
set_option maxHeartbeats 4000000 in
set_option maxRecDepth 100000 in
theorem c_L_run00 (l : Launch) (D : va_G) (cI cJ : ClassId) (tb : Nat) (h0 kw sc so tp ct sr oo : Nat) (kb : Int32) (nb : Nat) (F S f C R : Nat → Int32) (g : Nat → Int64) (sz : Nat) (hnb : nb ≤ 64) : Met l yL_run wsL_run ({ frames := 6, cells := 0, slots := 0, locals := 144 }) (va_Pc [.ref h0, .int (nI 0), .int (nI 0), .ref oo] (fun U => PW D [(cI, .int), (cJ, .long)] [(h0, .inr (0, [.ref kw, .int kb, .int (nI 1), .ref sc, .ref so, .ref tp, .int (nI (4 * nb)), .ref ct, .ref sr])), (sc, .inl (cI, 140, .inl F)), (so, .inl (cI, 4, .inl S)), (tp, .inl (cI, 256, .inl f)), (ct, .inl (cI, 4, .inl C)), (sr, .inl (cI, 4, .inl R)), (oo, .inl (cJ, 1, .inr (.inl g)))] sz U ∧ bxs tb (va_A [(h0, .inr (0, [.ref kw, .int kb, .int (nI 1), .ref sc, .ref so, .ref tp, .int (nI (4 * nb)), .ref ct, .ref sr])), (sc, .inl (cI, 140, .inl F)), (so, .inl (cI, 4, .inl S)), (tp, .inl (cI, 256, .inl f)), (ct, .inl (cI, 4, .inl C)), (sr, .inl (cI, 4, .inl R)), (oo, .inl (cJ, 1, .inr (.inl g)))] sz) U U.heap)) (va_Qi (fun r9 (u : Nat → Nat → Int32) => r9 = nI 0) (fun u => BW D [(cI, .int), (cJ, .long)] (va_A [(h0, .inr (0, [.ref kw, .int kb, .int (nI 1), .ref sc, .ref so, .ref tp, .int (nI (4 * nb)), .ref ct, .ref sr])), (sc, .inl (cI, 140, .inl F)), (so, .inl (cI, 4, .inl S)), (tp, .inl (cI, 256, .inl f)), (ct, .inl (cI, 4, .inl C)), (sr, .inl (cI, 4, .inl R)), (oo, .inl (cJ, 1, .inr (.inl g)))] sz) [(h0, .inr (0, [.ref kw, .int kb, .int (nI 1), .ref sc, .ref so, .ref tp, .int (nI (4 * nb)), .ref ct, .ref sr])), (sc, .inl (cI, 140, .inl F)), (so, .inl (cI, 4, .inl S)), (tp, .inl (cI, 256, .inl (cEach 0 F f nb))), (ct, .inl (cI, 4, .inl C)), (sr, .inl (cI, 4, .inl R)), (oo, .inl (cJ, 1, .inr (.inl (vp_updL g 0 (nI nb).toInt64))))]) (va_A [(h0, .inr (0, [.ref kw, .int kb, .int (nI 1), .ref sc, .ref so, .ref tp, .int (nI (4 * nb)), .ref ct, .ref sr])), (sc, .inl (cI, 140, .inl F)), (so, .inl (cI, 4, .inl S)), (tp, .inl (cI, 256, .inl f)), (ct, .inl (cI, 4, .inl C)), (sr, .inl (cI, 4, .inl R)), (oo, .inl (cJ, 1, .inr (.inl g)))] sz)) 0 0 (va_A [(h0, .inr (0, [.ref kw, .int kb, .int (nI 1), .ref sc, .ref so, .ref tp, .int (nI (4 * nb)), .ref ct, .ref sr])), (sc, .inl (cI, 140, .inl F)), (so, .inl (cI, 4, .inl S)), (tp, .inl (cI, 256, .inl f)), (ct, .inl (cI, 4, .inl C)), (sr, .inl (cI, 4, .inl R)), (oo, .inl (cJ, 1, .inr (.inl g)))] sz) := by
  refine va_MetW (cc := cL_run) (maxL := 5) (ret := (some .int)) (hh := [(0, 10, 13, 19), (0, 10, 17, 25)]) (by decide) rfl ?_
  intro p e s m args below meth c s₁ B hml hv
  obtain ⟨rfl, ⟨hsz, hP, hK2, hD0⟩, hbx⟩ := hv
  have hK := hK2.sub (tys' := [(cI, .int)]) [0] rfl
  have hx := B.exec
  have hb := B.bytes
  have hr := B.returns
  have hts := atoms_spec (ws := wsL_run) B.pre
  have hown : s.vm.findClass RL = some m.cls := findClass_of_methodNamed B.named
  have hlocks := B.notSynchronized
  subst hsz
  have hD := hD0.self (sz := s.heap.size)
  generalize hAe : va_A [(h0, .inr (0, [.ref kw, .int kb, .int (nI 1), .ref sc, .ref so, .ref tp, .int (nI (4 * nb)), .ref ct, .ref sr])), (sc, .inl (cI, 140, .inl F)), (so, .inl (cI, 4, .inl S)), (tp, .inl (cI, 256, .inl f)), (ct, .inl (cI, 4, .inl C)), (sr, .inl (cI, 4, .inl R)), (oo, .inl (cJ, 1, .inr (.inl g)))] s.heap.size = A at hbx hD ⊢
  have hA : ∀ q : Nat, s.heap.size ≤ q → A q := fun q h => by rw [← hAe]; exact Or.inr h
  have hS : va_S A s.heap s.heap [] := va_S.rf
  have hl := lv_entry ([.ref h0, .int (nI 0), .int (nI 0), .ref oo]) (n := 5) (Nat.le_of_ble_eq_true rfl)
  rw [lg_entry_eq]
  generalize (lg_sl ([.ref h0, .int (nI 0), .int (nI 0), .ref oo]) ++ List.replicate (5 - (lg_sl ([.ref h0, .int (nI 0), .int (nI 0), .ref oo])).length) Slot.unset).toArray = ls at hl ⊢
  have hl : lv_has ls 5 [(0, .ref h0), (1, .int (nI 0)), (2, .int (nI 0)), (3, .ref oo)] := hl
  refine lv_aload_n hx hb dL_run_0 rfl (lv_at hl 3 rfl) ?_
  refine lv_iconst (v := nI 0) hx hb dL_run_1 (by decide) ?_
  refine lv_aload_n hx hb dL_run_2 rfl (lv_at hl 0 rfl) ?_
  refine lv_iload_n hx hb dL_run_3 rfl (lv_at hl 1 rfl) ?_
  refine lv_iload_n hx hb dL_run_4 rfl (lv_at hl 2 rfl) ?_
  refine wk_VI (b := h0) (As := [.int (nI 0), .int (nI 0)]) (rest := [.int (nI 0), .ref oo]) (wc := [(h0, .inr (0, [.ref kw, .int kb, .int (nI 1), .ref sc, .ref so, .ref tp, .int (nI (4 * nb)), .ref ct, .ref sr])), (sc, .inl (cI, 140, .inl F)), (so, .inl (cI, 4, .inl S)), (tp, .inl (cI, 256, .inl f)), (ct, .inl (cI, 4, .inl C)), (sr, .inl (cI, 4, .inl R))]) (wr := [(oo, .inl (cJ, 1, .inr (.inl g)))]) (w1 := fun (u1 : Nat → Nat → Int32) => [(h0, .inr (0, [.ref kw, .int kb, .int (nI 1), .ref sc, .ref so, .ref tp, .int (nI (4 * nb)), .ref ct, .ref sr])), (sc, .inl (cI, 140, .inl F)), (so, .inl (cI, 4, .inl S)), (tp, .inl (cI, 256, .inl (cEach 0 F f nb))), (ct, .inl (cI, 4, .inl C)), (sr, .inl (cI, 4, .inl R))]) (w2 := fun (u1 : Nat → Nat → Int32) => [(h0, .inr (0, [.ref kw, .int kb, .int (nI 1), .ref sc, .ref so, .ref tp, .int (nI (4 * nb)), .ref ct, .ref sr])), (sc, .inl (cI, 140, .inl F)), (so, .inl (cI, 4, .inl S)), (tp, .inl (cI, 256, .inl (cEach 0 F f nb))), (ct, .inl (cI, 4, .inl C)), (sr, .inl (cI, 4, .inl R)), (oo, .inl (cJ, 1, .inr (.inl g)))]) (ci := 0) (q0 := 0) ⟨hx, hb, hml, hown, hts⟩ (c_X0_run00 l D cI tb _ h0 kw sc so tp ct sr kb nb F S f C R hnb) (cwV 2 hts gL_run_X0_run rfl rfl rfl (by decide +kernel) ⟨Nat.le_of_ble_eq_true rfl, Nat.le_of_ble_eq_true rfl⟩) (fun V g mk a h => bxs.call g mk a h) (fun hF V hU hW => hbx.give hS hF hU hW) hK hP hD hS hA rfl rfl [0, 1, 2, 3, 4, 5] [6] rfl (by decide) rfl (by decide) (by decide) [1, 2, 3, 4, 5, 6, 0] (fun _ => rfl) (by decide) rfl hl.1 rfl (Nat.le_of_ble_eq_true rfl) dL_run_5 ⟨Nat.zero_le _, Nat.zero_le _⟩ (fun zu1 u1 H locs hu1 hP hD hS => ?_)
  have hP : va_P D vwCl [(h0, .inr (0, [.ref kw, .int kb, .int (nI 1), .ref sc, .ref so, .ref tp, .int (nI (4 * nb)), .ref ct, .ref sr])), (sc, .inl (cI, 140, .inl F)), (so, .inl (cI, 4, .inl S)), (tp, .inl (cI, 256, .inl (cEach 0 F f nb))), (ct, .inl (cI, 4, .inl C)), (sr, .inl (cI, 4, .inl R)), (oo, .inl (cJ, 1, .inr (.inl g)))] H := hP
  have hD : va_D A [(h0, .inr (0, [.ref kw, .int kb, .int (nI 1), .ref sc, .ref so, .ref tp, .int (nI (4 * nb)), .ref ct, .ref sr])), (sc, .inl (cI, 140, .inl F)), (so, .inl (cI, 4, .inl S)), (tp, .inl (cI, 256, .inl (cEach 0 F f nb))), (ct, .inl (cI, 4, .inl C)), (sr, .inl (cI, 4, .inl R)), (oo, .inl (cJ, 1, .inr (.inl g)))] := hD
  refine wk_i (y := nI nb) hu1 ?_
  refine lv_i2l (v := (nI nb).toInt64) hx hb dL_run_8 rfl ?_
  refine va_last hx hb hK2 hP hD hS 6 1 rfl rfl (i := nI 0) (x := (nI nb).toInt64) (vp_in_nI (by decide) (by decide)) dL_run_9 (fun H locs hP hD hS => ?_)
  have hP : va_P D vwCl [(h0, .inr (0, [.ref kw, .int kb, .int (nI 1), .ref sc, .ref so, .ref tp, .int (nI (4 * nb)), .ref ct, .ref sr])), (sc, .inl (cI, 140, .inl F)), (so, .inl (cI, 4, .inl S)), (tp, .inl (cI, 256, .inl (cEach 0 F f nb))), (ct, .inl (cI, 4, .inl C)), (sr, .inl (cI, 4, .inl R)), (oo, .inl (cJ, 1, .inr (.inl (vp_updL g 0 ((nI nb).toInt64)))))] H := hP
  have hD : va_D A [(h0, .inr (0, [.ref kw, .int kb, .int (nI 1), .ref sc, .ref so, .ref tp, .int (nI (4 * nb)), .ref ct, .ref sr])), (sc, .inl (cI, 140, .inl F)), (so, .inl (cI, 4, .inl S)), (tp, .inl (cI, 256, .inl (cEach 0 F f nb))), (ct, .inl (cI, 4, .inl C)), (sr, .inl (cI, 4, .inl R)), (oo, .inl (cJ, 1, .inr (.inl (vp_updL g 0 ((nI nb).toInt64)))))] := hD
  refine lv_goto (tgt := 21) hx hb dL_run_10 (by decide) ?_
  refine lv_iconst (v := nI 0) hx hb dL_run_21 (by decide) ?_
  exact W.iret (v := nI 0) hx hb hr (fun t ht hW => ⟨⟨_, (fun _ _ => 0), rfl, rfl, by rw [ht]; exact hP, va_K.moved hW.alike hK2, hD⟩, hS.F ht⟩) hS.2.2 dL_run_22
set_option maxHeartbeats 4000000 in
set_option maxRecDepth 100000 in
theorem c_L_run01 (l : Launch) (D : va_G) (cI cJ : ClassId) (tb : Nat) (h0 kw sc so tp ct sr oo : Nat) (kb : Int32) (nb : Nat) (F S f C R : Nat → Int32) (g : Nat → Int64) (sz : Nat) (hnb : nb ≤ 64) : Met l yL_run wsL_run ({ frames := 6, cells := 0, slots := 0, locals := 144 }) (va_Pc [.ref h0, .int (nI 0), .int (nI 1), .ref oo] (fun U => PW D [(cI, .int), (cJ, .long)] [(h0, .inr (0, [.ref kw, .int kb, .int (nI 1), .ref sc, .ref so, .ref tp, .int (nI (4 * nb)), .ref ct, .ref sr])), (sc, .inl (cI, 140, .inl F)), (so, .inl (cI, 4, .inl S)), (tp, .inl (cI, 256, .inl f)), (ct, .inl (cI, 4, .inl C)), (sr, .inl (cI, 4, .inl R)), (oo, .inl (cJ, 1, .inr (.inl g)))] sz U ∧ bxs tb (va_A [(h0, .inr (0, [.ref kw, .int kb, .int (nI 1), .ref sc, .ref so, .ref tp, .int (nI (4 * nb)), .ref ct, .ref sr])), (sc, .inl (cI, 140, .inl F)), (so, .inl (cI, 4, .inl S)), (tp, .inl (cI, 256, .inl f)), (ct, .inl (cI, 4, .inl C)), (sr, .inl (cI, 4, .inl R)), (oo, .inl (cJ, 1, .inr (.inl g)))] sz) U U.heap)) (va_Qi (fun r9 (u : Nat → Nat → Int32) => r9 = nI 0) (fun u => BW D [(cI, .int), (cJ, .long)] (va_A [(h0, .inr (0, [.ref kw, .int kb, .int (nI 1), .ref sc, .ref so, .ref tp, .int (nI (4 * nb)), .ref ct, .ref sr])), (sc, .inl (cI, 140, .inl F)), (so, .inl (cI, 4, .inl S)), (tp, .inl (cI, 256, .inl f)), (ct, .inl (cI, 4, .inl C)), (sr, .inl (cI, 4, .inl R)), (oo, .inl (cJ, 1, .inr (.inl g)))] sz) [(h0, .inr (0, [.ref kw, .int kb, .int (nI 1), .ref sc, .ref so, .ref tp, .int (nI (4 * nb)), .ref ct, .ref sr])), (sc, .inl (cI, 140, .inl F)), (so, .inl (cI, 4, .inl S)), (tp, .inl (cI, 256, .inl (cEach 1 F f nb))), (ct, .inl (cI, 4, .inl C)), (sr, .inl (cI, 4, .inl R)), (oo, .inl (cJ, 1, .inr (.inl (vp_updL g 0 (nI nb).toInt64))))]) (va_A [(h0, .inr (0, [.ref kw, .int kb, .int (nI 1), .ref sc, .ref so, .ref tp, .int (nI (4 * nb)), .ref ct, .ref sr])), (sc, .inl (cI, 140, .inl F)), (so, .inl (cI, 4, .inl S)), (tp, .inl (cI, 256, .inl f)), (ct, .inl (cI, 4, .inl C)), (sr, .inl (cI, 4, .inl R)), (oo, .inl (cJ, 1, .inr (.inl g)))] sz)) 0 0 (va_A [(h0, .inr (0, [.ref kw, .int kb, .int (nI 1), .ref sc, .ref so, .ref tp, .int (nI (4 * nb)), .ref ct, .ref sr])), (sc, .inl (cI, 140, .inl F)), (so, .inl (cI, 4, .inl S)), (tp, .inl (cI, 256, .inl f)), (ct, .inl (cI, 4, .inl C)), (sr, .inl (cI, 4, .inl R)), (oo, .inl (cJ, 1, .inr (.inl g)))] sz) := by
  refine va_MetW (cc := cL_run) (maxL := 5) (ret := (some .int)) (hh := [(0, 10, 13, 19), (0, 10, 17, 25)]) (by decide) rfl ?_
  intro p e s m args below meth c s₁ B hml hv
  obtain ⟨rfl, ⟨hsz, hP, hK2, hD0⟩, hbx⟩ := hv
  have hK := hK2.sub (tys' := [(cI, .int)]) [0] rfl
  have hx := B.exec
  have hb := B.bytes
  have hr := B.returns
  have hts := atoms_spec (ws := wsL_run) B.pre
  have hown : s.vm.findClass RL = some m.cls := findClass_of_methodNamed B.named
  have hlocks := B.notSynchronized
  subst hsz
  have hD := hD0.self (sz := s.heap.size)
  generalize hAe : va_A [(h0, .inr (0, [.ref kw, .int kb, .int (nI 1), .ref sc, .ref so, .ref tp, .int (nI (4 * nb)), .ref ct, .ref sr])), (sc, .inl (cI, 140, .inl F)), (so, .inl (cI, 4, .inl S)), (tp, .inl (cI, 256, .inl f)), (ct, .inl (cI, 4, .inl C)), (sr, .inl (cI, 4, .inl R)), (oo, .inl (cJ, 1, .inr (.inl g)))] s.heap.size = A at hbx hD ⊢
  have hA : ∀ q : Nat, s.heap.size ≤ q → A q := fun q h => by rw [← hAe]; exact Or.inr h
  have hS : va_S A s.heap s.heap [] := va_S.rf
  have hl := lv_entry ([.ref h0, .int (nI 0), .int (nI 1), .ref oo]) (n := 5) (Nat.le_of_ble_eq_true rfl)
  rw [lg_entry_eq]
  generalize (lg_sl ([.ref h0, .int (nI 0), .int (nI 1), .ref oo]) ++ List.replicate (5 - (lg_sl ([.ref h0, .int (nI 0), .int (nI 1), .ref oo])).length) Slot.unset).toArray = ls at hl ⊢
  have hl : lv_has ls 5 [(0, .ref h0), (1, .int (nI 0)), (2, .int (nI 1)), (3, .ref oo)] := hl
  refine lv_aload_n hx hb dL_run_0 rfl (lv_at hl 3 rfl) ?_
  refine lv_iconst (v := nI 0) hx hb dL_run_1 (by decide) ?_
  refine lv_aload_n hx hb dL_run_2 rfl (lv_at hl 0 rfl) ?_
  refine lv_iload_n hx hb dL_run_3 rfl (lv_at hl 1 rfl) ?_
  refine lv_iload_n hx hb dL_run_4 rfl (lv_at hl 2 rfl) ?_
  refine wk_VI (b := h0) (As := [.int (nI 0), .int (nI 1)]) (rest := [.int (nI 0), .ref oo]) (wc := [(h0, .inr (0, [.ref kw, .int kb, .int (nI 1), .ref sc, .ref so, .ref tp, .int (nI (4 * nb)), .ref ct, .ref sr])), (sc, .inl (cI, 140, .inl F)), (so, .inl (cI, 4, .inl S)), (tp, .inl (cI, 256, .inl f)), (ct, .inl (cI, 4, .inl C)), (sr, .inl (cI, 4, .inl R))]) (wr := [(oo, .inl (cJ, 1, .inr (.inl g)))]) (w1 := fun (u1 : Nat → Nat → Int32) => [(h0, .inr (0, [.ref kw, .int kb, .int (nI 1), .ref sc, .ref so, .ref tp, .int (nI (4 * nb)), .ref ct, .ref sr])), (sc, .inl (cI, 140, .inl F)), (so, .inl (cI, 4, .inl S)), (tp, .inl (cI, 256, .inl (cEach 1 F f nb))), (ct, .inl (cI, 4, .inl C)), (sr, .inl (cI, 4, .inl R))]) (w2 := fun (u1 : Nat → Nat → Int32) => [(h0, .inr (0, [.ref kw, .int kb, .int (nI 1), .ref sc, .ref so, .ref tp, .int (nI (4 * nb)), .ref ct, .ref sr])), (sc, .inl (cI, 140, .inl F)), (so, .inl (cI, 4, .inl S)), (tp, .inl (cI, 256, .inl (cEach 1 F f nb))), (ct, .inl (cI, 4, .inl C)), (sr, .inl (cI, 4, .inl R)), (oo, .inl (cJ, 1, .inr (.inl g)))]) (ci := 0) (q0 := 0) ⟨hx, hb, hml, hown, hts⟩ (c_X0_run01 l D cI tb _ h0 kw sc so tp ct sr kb nb F S f C R hnb) (cwV 2 hts gL_run_X0_run rfl rfl rfl (by decide +kernel) ⟨Nat.le_of_ble_eq_true rfl, Nat.le_of_ble_eq_true rfl⟩) (fun V g mk a h => bxs.call g mk a h) (fun hF V hU hW => hbx.give hS hF hU hW) hK hP hD hS hA rfl rfl [0, 1, 2, 3, 4, 5] [6] rfl (by decide) rfl (by decide) (by decide) [1, 2, 3, 4, 5, 6, 0] (fun _ => rfl) (by decide) rfl hl.1 rfl (Nat.le_of_ble_eq_true rfl) dL_run_5 ⟨Nat.zero_le _, Nat.zero_le _⟩ (fun zu1 u1 H locs hu1 hP hD hS => ?_)
  have hP : va_P D vwCl [(h0, .inr (0, [.ref kw, .int kb, .int (nI 1), .ref sc, .ref so, .ref tp, .int (nI (4 * nb)), .ref ct, .ref sr])), (sc, .inl (cI, 140, .inl F)), (so, .inl (cI, 4, .inl S)), (tp, .inl (cI, 256, .inl (cEach 1 F f nb))), (ct, .inl (cI, 4, .inl C)), (sr, .inl (cI, 4, .inl R)), (oo, .inl (cJ, 1, .inr (.inl g)))] H := hP
  have hD : va_D A [(h0, .inr (0, [.ref kw, .int kb, .int (nI 1), .ref sc, .ref so, .ref tp, .int (nI (4 * nb)), .ref ct, .ref sr])), (sc, .inl (cI, 140, .inl F)), (so, .inl (cI, 4, .inl S)), (tp, .inl (cI, 256, .inl (cEach 1 F f nb))), (ct, .inl (cI, 4, .inl C)), (sr, .inl (cI, 4, .inl R)), (oo, .inl (cJ, 1, .inr (.inl g)))] := hD
  refine wk_i (y := nI nb) hu1 ?_
  refine lv_i2l (v := (nI nb).toInt64) hx hb dL_run_8 rfl ?_
  refine va_last hx hb hK2 hP hD hS 6 1 rfl rfl (i := nI 0) (x := (nI nb).toInt64) (vp_in_nI (by decide) (by decide)) dL_run_9 (fun H locs hP hD hS => ?_)
  have hP : va_P D vwCl [(h0, .inr (0, [.ref kw, .int kb, .int (nI 1), .ref sc, .ref so, .ref tp, .int (nI (4 * nb)), .ref ct, .ref sr])), (sc, .inl (cI, 140, .inl F)), (so, .inl (cI, 4, .inl S)), (tp, .inl (cI, 256, .inl (cEach 1 F f nb))), (ct, .inl (cI, 4, .inl C)), (sr, .inl (cI, 4, .inl R)), (oo, .inl (cJ, 1, .inr (.inl (vp_updL g 0 ((nI nb).toInt64)))))] H := hP
  have hD : va_D A [(h0, .inr (0, [.ref kw, .int kb, .int (nI 1), .ref sc, .ref so, .ref tp, .int (nI (4 * nb)), .ref ct, .ref sr])), (sc, .inl (cI, 140, .inl F)), (so, .inl (cI, 4, .inl S)), (tp, .inl (cI, 256, .inl (cEach 1 F f nb))), (ct, .inl (cI, 4, .inl C)), (sr, .inl (cI, 4, .inl R)), (oo, .inl (cJ, 1, .inr (.inl (vp_updL g 0 ((nI nb).toInt64)))))] := hD
  refine lv_goto (tgt := 21) hx hb dL_run_10 (by decide) ?_
  refine lv_iconst (v := nI 0) hx hb dL_run_21 (by decide) ?_
  exact W.iret (v := nI 0) hx hb hr (fun t ht hW => ⟨⟨_, (fun _ _ => 0), rfl, rfl, by rw [ht]; exact hP, va_K.moved hW.alike hK2, hD⟩, hS.F ht⟩) hS.2.2 dL_run_22
set_option maxHeartbeats 4000000 in
set_option maxRecDepth 100000 in
theorem c_L_run10 (l : Launch) (D : va_G) (cI cJ : ClassId) (tb : Nat) (h0 kw sc so tp ct sr oo : Nat) (kb : Int32) (nb : Nat) (F S f C R : Nat → Int32) (g : Nat → Int64) (sz : Nat) (hnb : nb ≤ 64) : Met l yL_run wsL_run ({ frames := 6, cells := 0, slots := 0, locals := 144 }) (va_Pc [.ref h0, .int (nI 1), .int (nI 0), .ref oo] (fun U => PW D [(cI, .int), (cJ, .long)] [(h0, .inr (0, [.ref kw, .int kb, .int (nI 1), .ref sc, .ref so, .ref tp, .int (nI (4 * nb)), .ref ct, .ref sr])), (sc, .inl (cI, 140, .inl F)), (so, .inl (cI, 4, .inl S)), (tp, .inl (cI, 256, .inl f)), (ct, .inl (cI, 4, .inl C)), (sr, .inl (cI, 4, .inl R)), (oo, .inl (cJ, 1, .inr (.inl g)))] sz U ∧ bxs tb (va_A [(h0, .inr (0, [.ref kw, .int kb, .int (nI 1), .ref sc, .ref so, .ref tp, .int (nI (4 * nb)), .ref ct, .ref sr])), (sc, .inl (cI, 140, .inl F)), (so, .inl (cI, 4, .inl S)), (tp, .inl (cI, 256, .inl f)), (ct, .inl (cI, 4, .inl C)), (sr, .inl (cI, 4, .inl R)), (oo, .inl (cJ, 1, .inr (.inl g)))] sz) U U.heap)) (va_Qi (fun r9 (u : Nat → Nat → Int32) => r9 = nI 0) (fun u => BW D [(cI, .int), (cJ, .long)] (va_A [(h0, .inr (0, [.ref kw, .int kb, .int (nI 1), .ref sc, .ref so, .ref tp, .int (nI (4 * nb)), .ref ct, .ref sr])), (sc, .inl (cI, 140, .inl F)), (so, .inl (cI, 4, .inl S)), (tp, .inl (cI, 256, .inl f)), (ct, .inl (cI, 4, .inl C)), (sr, .inl (cI, 4, .inl R)), (oo, .inl (cJ, 1, .inr (.inl g)))] sz) [(h0, .inr (0, [.ref kw, .int kb, .int (nI 1), .ref sc, .ref so, .ref tp, .int (nI (4 * nb)), .ref ct, .ref sr])), (sc, .inl (cI, 140, .inl F)), (so, .inl (cI, 4, .inl S)), (tp, .inl (cI, 256, .inl (cChain F S f nb))), (ct, .inl (cI, 4, .inl C)), (sr, .inl (cI, 4, .inl R)), (oo, .inl (cJ, 1, .inr (.inl (vp_updL g 0 (nI nb).toInt64))))]) (va_A [(h0, .inr (0, [.ref kw, .int kb, .int (nI 1), .ref sc, .ref so, .ref tp, .int (nI (4 * nb)), .ref ct, .ref sr])), (sc, .inl (cI, 140, .inl F)), (so, .inl (cI, 4, .inl S)), (tp, .inl (cI, 256, .inl f)), (ct, .inl (cI, 4, .inl C)), (sr, .inl (cI, 4, .inl R)), (oo, .inl (cJ, 1, .inr (.inl g)))] sz)) 0 0 (va_A [(h0, .inr (0, [.ref kw, .int kb, .int (nI 1), .ref sc, .ref so, .ref tp, .int (nI (4 * nb)), .ref ct, .ref sr])), (sc, .inl (cI, 140, .inl F)), (so, .inl (cI, 4, .inl S)), (tp, .inl (cI, 256, .inl f)), (ct, .inl (cI, 4, .inl C)), (sr, .inl (cI, 4, .inl R)), (oo, .inl (cJ, 1, .inr (.inl g)))] sz) := by
  refine va_MetW (cc := cL_run) (maxL := 5) (ret := (some .int)) (hh := [(0, 10, 13, 19), (0, 10, 17, 25)]) (by decide) rfl ?_
  intro p e s m args below meth c s₁ B hml hv
  obtain ⟨rfl, ⟨hsz, hP, hK2, hD0⟩, hbx⟩ := hv
  have hK := hK2.sub (tys' := [(cI, .int)]) [0] rfl
  have hx := B.exec
  have hb := B.bytes
  have hr := B.returns
  have hts := atoms_spec (ws := wsL_run) B.pre
  have hown : s.vm.findClass RL = some m.cls := findClass_of_methodNamed B.named
  have hlocks := B.notSynchronized
  subst hsz
  have hD := hD0.self (sz := s.heap.size)
  generalize hAe : va_A [(h0, .inr (0, [.ref kw, .int kb, .int (nI 1), .ref sc, .ref so, .ref tp, .int (nI (4 * nb)), .ref ct, .ref sr])), (sc, .inl (cI, 140, .inl F)), (so, .inl (cI, 4, .inl S)), (tp, .inl (cI, 256, .inl f)), (ct, .inl (cI, 4, .inl C)), (sr, .inl (cI, 4, .inl R)), (oo, .inl (cJ, 1, .inr (.inl g)))] s.heap.size = A at hbx hD ⊢
  have hA : ∀ q : Nat, s.heap.size ≤ q → A q := fun q h => by rw [← hAe]; exact Or.inr h
  have hS : va_S A s.heap s.heap [] := va_S.rf
  have hl := lv_entry ([.ref h0, .int (nI 1), .int (nI 0), .ref oo]) (n := 5) (Nat.le_of_ble_eq_true rfl)
  rw [lg_entry_eq]
  generalize (lg_sl ([.ref h0, .int (nI 1), .int (nI 0), .ref oo]) ++ List.replicate (5 - (lg_sl ([.ref h0, .int (nI 1), .int (nI 0), .ref oo])).length) Slot.unset).toArray = ls at hl ⊢
  have hl : lv_has ls 5 [(0, .ref h0), (1, .int (nI 1)), (2, .int (nI 0)), (3, .ref oo)] := hl
  refine lv_aload_n hx hb dL_run_0 rfl (lv_at hl 3 rfl) ?_
  refine lv_iconst (v := nI 0) hx hb dL_run_1 (by decide) ?_
  refine lv_aload_n hx hb dL_run_2 rfl (lv_at hl 0 rfl) ?_
  refine lv_iload_n hx hb dL_run_3 rfl (lv_at hl 1 rfl) ?_
  refine lv_iload_n hx hb dL_run_4 rfl (lv_at hl 2 rfl) ?_
  refine wk_VI (b := h0) (As := [.int (nI 1), .int (nI 0)]) (rest := [.int (nI 0), .ref oo]) (wc := [(h0, .inr (0, [.ref kw, .int kb, .int (nI 1), .ref sc, .ref so, .ref tp, .int (nI (4 * nb)), .ref ct, .ref sr])), (sc, .inl (cI, 140, .inl F)), (so, .inl (cI, 4, .inl S)), (tp, .inl (cI, 256, .inl f)), (ct, .inl (cI, 4, .inl C)), (sr, .inl (cI, 4, .inl R))]) (wr := [(oo, .inl (cJ, 1, .inr (.inl g)))]) (w1 := fun (u1 : Nat → Nat → Int32) => [(h0, .inr (0, [.ref kw, .int kb, .int (nI 1), .ref sc, .ref so, .ref tp, .int (nI (4 * nb)), .ref ct, .ref sr])), (sc, .inl (cI, 140, .inl F)), (so, .inl (cI, 4, .inl S)), (tp, .inl (cI, 256, .inl (cChain F S f nb))), (ct, .inl (cI, 4, .inl C)), (sr, .inl (cI, 4, .inl R))]) (w2 := fun (u1 : Nat → Nat → Int32) => [(h0, .inr (0, [.ref kw, .int kb, .int (nI 1), .ref sc, .ref so, .ref tp, .int (nI (4 * nb)), .ref ct, .ref sr])), (sc, .inl (cI, 140, .inl F)), (so, .inl (cI, 4, .inl S)), (tp, .inl (cI, 256, .inl (cChain F S f nb))), (ct, .inl (cI, 4, .inl C)), (sr, .inl (cI, 4, .inl R)), (oo, .inl (cJ, 1, .inr (.inl g)))]) (ci := 0) (q0 := 0) ⟨hx, hb, hml, hown, hts⟩ (c_X0_run10 l D cI tb _ h0 kw sc so tp ct sr kb nb F S f C R hnb) (cwV 2 hts gL_run_X0_run rfl rfl rfl (by decide +kernel) ⟨Nat.le_of_ble_eq_true rfl, Nat.le_of_ble_eq_true rfl⟩) (fun V g mk a h => bxs.call g mk a h) (fun hF V hU hW => hbx.give hS hF hU hW) hK hP hD hS hA rfl rfl [0, 1, 2, 3, 4, 5] [6] rfl (by decide) rfl (by decide) (by decide) [1, 2, 3, 4, 5, 6, 0] (fun _ => rfl) (by decide) rfl hl.1 rfl (Nat.le_of_ble_eq_true rfl) dL_run_5 ⟨Nat.zero_le _, Nat.zero_le _⟩ (fun zu1 u1 H locs hu1 hP hD hS => ?_)
  have hP : va_P D vwCl [(h0, .inr (0, [.ref kw, .int kb, .int (nI 1), .ref sc, .ref so, .ref tp, .int (nI (4 * nb)), .ref ct, .ref sr])), (sc, .inl (cI, 140, .inl F)), (so, .inl (cI, 4, .inl S)), (tp, .inl (cI, 256, .inl (cChain F S f nb))), (ct, .inl (cI, 4, .inl C)), (sr, .inl (cI, 4, .inl R)), (oo, .inl (cJ, 1, .inr (.inl g)))] H := hP
  have hD : va_D A [(h0, .inr (0, [.ref kw, .int kb, .int (nI 1), .ref sc, .ref so, .ref tp, .int (nI (4 * nb)), .ref ct, .ref sr])), (sc, .inl (cI, 140, .inl F)), (so, .inl (cI, 4, .inl S)), (tp, .inl (cI, 256, .inl (cChain F S f nb))), (ct, .inl (cI, 4, .inl C)), (sr, .inl (cI, 4, .inl R)), (oo, .inl (cJ, 1, .inr (.inl g)))] := hD
  refine wk_i (y := nI nb) hu1 ?_
  refine lv_i2l (v := (nI nb).toInt64) hx hb dL_run_8 rfl ?_
  refine va_last hx hb hK2 hP hD hS 6 1 rfl rfl (i := nI 0) (x := (nI nb).toInt64) (vp_in_nI (by decide) (by decide)) dL_run_9 (fun H locs hP hD hS => ?_)
  have hP : va_P D vwCl [(h0, .inr (0, [.ref kw, .int kb, .int (nI 1), .ref sc, .ref so, .ref tp, .int (nI (4 * nb)), .ref ct, .ref sr])), (sc, .inl (cI, 140, .inl F)), (so, .inl (cI, 4, .inl S)), (tp, .inl (cI, 256, .inl (cChain F S f nb))), (ct, .inl (cI, 4, .inl C)), (sr, .inl (cI, 4, .inl R)), (oo, .inl (cJ, 1, .inr (.inl (vp_updL g 0 ((nI nb).toInt64)))))] H := hP
  have hD : va_D A [(h0, .inr (0, [.ref kw, .int kb, .int (nI 1), .ref sc, .ref so, .ref tp, .int (nI (4 * nb)), .ref ct, .ref sr])), (sc, .inl (cI, 140, .inl F)), (so, .inl (cI, 4, .inl S)), (tp, .inl (cI, 256, .inl (cChain F S f nb))), (ct, .inl (cI, 4, .inl C)), (sr, .inl (cI, 4, .inl R)), (oo, .inl (cJ, 1, .inr (.inl (vp_updL g 0 ((nI nb).toInt64)))))] := hD
  refine lv_goto (tgt := 21) hx hb dL_run_10 (by decide) ?_
  refine lv_iconst (v := nI 0) hx hb dL_run_21 (by decide) ?_
  exact W.iret (v := nI 0) hx hb hr (fun t ht hW => ⟨⟨_, (fun _ _ => 0), rfl, rfl, by rw [ht]; exact hP, va_K.moved hW.alike hK2, hD⟩, hS.F ht⟩) hS.2.2 dL_run_22
set_option maxHeartbeats 4000000 in
set_option maxRecDepth 100000 in
theorem c_L_run11 (l : Launch) (D : va_G) (cI cJ : ClassId) (tb : Nat) (h0 kw sc so tp ct sr oo : Nat) (kb : Int32) (nb : Nat) (F S f C R : Nat → Int32) (g : Nat → Int64) (sz : Nat) (hnb : nb ≤ 64) : Met l yL_run wsL_run ({ frames := 6, cells := 0, slots := 0, locals := 144 }) (va_Pc [.ref h0, .int (nI 1), .int (nI 1), .ref oo] (fun U => PW D [(cI, .int), (cJ, .long)] [(h0, .inr (0, [.ref kw, .int kb, .int (nI 1), .ref sc, .ref so, .ref tp, .int (nI (4 * nb)), .ref ct, .ref sr])), (sc, .inl (cI, 140, .inl F)), (so, .inl (cI, 4, .inl S)), (tp, .inl (cI, 256, .inl f)), (ct, .inl (cI, 4, .inl C)), (sr, .inl (cI, 4, .inl R)), (oo, .inl (cJ, 1, .inr (.inl g)))] sz U ∧ bxs tb (va_A [(h0, .inr (0, [.ref kw, .int kb, .int (nI 1), .ref sc, .ref so, .ref tp, .int (nI (4 * nb)), .ref ct, .ref sr])), (sc, .inl (cI, 140, .inl F)), (so, .inl (cI, 4, .inl S)), (tp, .inl (cI, 256, .inl f)), (ct, .inl (cI, 4, .inl C)), (sr, .inl (cI, 4, .inl R)), (oo, .inl (cJ, 1, .inr (.inl g)))] sz) U U.heap)) (va_Qi (fun r9 (u : Nat → Nat → Int32) => r9 = nI 0) (fun u => BW D [(cI, .int), (cJ, .long)] (va_A [(h0, .inr (0, [.ref kw, .int kb, .int (nI 1), .ref sc, .ref so, .ref tp, .int (nI (4 * nb)), .ref ct, .ref sr])), (sc, .inl (cI, 140, .inl F)), (so, .inl (cI, 4, .inl S)), (tp, .inl (cI, 256, .inl f)), (ct, .inl (cI, 4, .inl C)), (sr, .inl (cI, 4, .inl R)), (oo, .inl (cJ, 1, .inr (.inl g)))] sz) [(h0, .inr (0, [.ref kw, .int kb, .int (nI 1), .ref sc, .ref so, .ref tp, .int (nI (4 * nb)), .ref ct, .ref sr])), (sc, .inl (cI, 140, .inl F)), (so, .inl (cI, 4, .inl S)), (tp, .inl (cI, 256, .inl (cUn F S f nb nb))), (ct, .inl (cI, 4, .inl C)), (sr, .inl (cI, 4, .inl R)), (oo, .inl (cJ, 1, .inr (.inl (vp_updL g 0 (nI nb).toInt64))))]) (va_A [(h0, .inr (0, [.ref kw, .int kb, .int (nI 1), .ref sc, .ref so, .ref tp, .int (nI (4 * nb)), .ref ct, .ref sr])), (sc, .inl (cI, 140, .inl F)), (so, .inl (cI, 4, .inl S)), (tp, .inl (cI, 256, .inl f)), (ct, .inl (cI, 4, .inl C)), (sr, .inl (cI, 4, .inl R)), (oo, .inl (cJ, 1, .inr (.inl g)))] sz)) 0 0 (va_A [(h0, .inr (0, [.ref kw, .int kb, .int (nI 1), .ref sc, .ref so, .ref tp, .int (nI (4 * nb)), .ref ct, .ref sr])), (sc, .inl (cI, 140, .inl F)), (so, .inl (cI, 4, .inl S)), (tp, .inl (cI, 256, .inl f)), (ct, .inl (cI, 4, .inl C)), (sr, .inl (cI, 4, .inl R)), (oo, .inl (cJ, 1, .inr (.inl g)))] sz) := by
  refine va_MetW (cc := cL_run) (maxL := 5) (ret := (some .int)) (hh := [(0, 10, 13, 19), (0, 10, 17, 25)]) (by decide) rfl ?_
  intro p e s m args below meth c s₁ B hml hv
  obtain ⟨rfl, ⟨hsz, hP, hK2, hD0⟩, hbx⟩ := hv
  have hK := hK2.sub (tys' := [(cI, .int)]) [0] rfl
  have hx := B.exec
  have hb := B.bytes
  have hr := B.returns
  have hts := atoms_spec (ws := wsL_run) B.pre
  have hown : s.vm.findClass RL = some m.cls := findClass_of_methodNamed B.named
  have hlocks := B.notSynchronized
  subst hsz
  have hD := hD0.self (sz := s.heap.size)
  generalize hAe : va_A [(h0, .inr (0, [.ref kw, .int kb, .int (nI 1), .ref sc, .ref so, .ref tp, .int (nI (4 * nb)), .ref ct, .ref sr])), (sc, .inl (cI, 140, .inl F)), (so, .inl (cI, 4, .inl S)), (tp, .inl (cI, 256, .inl f)), (ct, .inl (cI, 4, .inl C)), (sr, .inl (cI, 4, .inl R)), (oo, .inl (cJ, 1, .inr (.inl g)))] s.heap.size = A at hbx hD ⊢
  have hA : ∀ q : Nat, s.heap.size ≤ q → A q := fun q h => by rw [← hAe]; exact Or.inr h
  have hS : va_S A s.heap s.heap [] := va_S.rf
  have hl := lv_entry ([.ref h0, .int (nI 1), .int (nI 1), .ref oo]) (n := 5) (Nat.le_of_ble_eq_true rfl)
  rw [lg_entry_eq]
  generalize (lg_sl ([.ref h0, .int (nI 1), .int (nI 1), .ref oo]) ++ List.replicate (5 - (lg_sl ([.ref h0, .int (nI 1), .int (nI 1), .ref oo])).length) Slot.unset).toArray = ls at hl ⊢
  have hl : lv_has ls 5 [(0, .ref h0), (1, .int (nI 1)), (2, .int (nI 1)), (3, .ref oo)] := hl
  refine lv_aload_n hx hb dL_run_0 rfl (lv_at hl 3 rfl) ?_
  refine lv_iconst (v := nI 0) hx hb dL_run_1 (by decide) ?_
  refine lv_aload_n hx hb dL_run_2 rfl (lv_at hl 0 rfl) ?_
  refine lv_iload_n hx hb dL_run_3 rfl (lv_at hl 1 rfl) ?_
  refine lv_iload_n hx hb dL_run_4 rfl (lv_at hl 2 rfl) ?_
  refine wk_VI (b := h0) (As := [.int (nI 1), .int (nI 1)]) (rest := [.int (nI 0), .ref oo]) (wc := [(h0, .inr (0, [.ref kw, .int kb, .int (nI 1), .ref sc, .ref so, .ref tp, .int (nI (4 * nb)), .ref ct, .ref sr])), (sc, .inl (cI, 140, .inl F)), (so, .inl (cI, 4, .inl S)), (tp, .inl (cI, 256, .inl f)), (ct, .inl (cI, 4, .inl C)), (sr, .inl (cI, 4, .inl R))]) (wr := [(oo, .inl (cJ, 1, .inr (.inl g)))]) (w1 := fun (u1 : Nat → Nat → Int32) => [(h0, .inr (0, [.ref kw, .int kb, .int (nI 1), .ref sc, .ref so, .ref tp, .int (nI (4 * nb)), .ref ct, .ref sr])), (sc, .inl (cI, 140, .inl F)), (so, .inl (cI, 4, .inl S)), (tp, .inl (cI, 256, .inl (cUn F S f nb nb))), (ct, .inl (cI, 4, .inl C)), (sr, .inl (cI, 4, .inl R))]) (w2 := fun (u1 : Nat → Nat → Int32) => [(h0, .inr (0, [.ref kw, .int kb, .int (nI 1), .ref sc, .ref so, .ref tp, .int (nI (4 * nb)), .ref ct, .ref sr])), (sc, .inl (cI, 140, .inl F)), (so, .inl (cI, 4, .inl S)), (tp, .inl (cI, 256, .inl (cUn F S f nb nb))), (ct, .inl (cI, 4, .inl C)), (sr, .inl (cI, 4, .inl R)), (oo, .inl (cJ, 1, .inr (.inl g)))]) (ci := 0) (q0 := 0) ⟨hx, hb, hml, hown, hts⟩ (c_X0_run11 l D cI tb _ h0 kw sc so tp ct sr kb nb F S f C R hnb) (cwV 2 hts gL_run_X0_run rfl rfl rfl (by decide +kernel) ⟨Nat.le_of_ble_eq_true rfl, Nat.le_of_ble_eq_true rfl⟩) (fun V g mk a h => bxs.call g mk a h) (fun hF V hU hW => hbx.give hS hF hU hW) hK hP hD hS hA rfl rfl [0, 1, 2, 3, 4, 5] [6] rfl (by decide) rfl (by decide) (by decide) [1, 2, 3, 4, 5, 6, 0] (fun _ => rfl) (by decide) rfl hl.1 rfl (Nat.le_of_ble_eq_true rfl) dL_run_5 ⟨Nat.zero_le _, Nat.zero_le _⟩ (fun zu1 u1 H locs hu1 hP hD hS => ?_)
  have hP : va_P D vwCl [(h0, .inr (0, [.ref kw, .int kb, .int (nI 1), .ref sc, .ref so, .ref tp, .int (nI (4 * nb)), .ref ct, .ref sr])), (sc, .inl (cI, 140, .inl F)), (so, .inl (cI, 4, .inl S)), (tp, .inl (cI, 256, .inl (cUn F S f nb nb))), (ct, .inl (cI, 4, .inl C)), (sr, .inl (cI, 4, .inl R)), (oo, .inl (cJ, 1, .inr (.inl g)))] H := hP
  have hD : va_D A [(h0, .inr (0, [.ref kw, .int kb, .int (nI 1), .ref sc, .ref so, .ref tp, .int (nI (4 * nb)), .ref ct, .ref sr])), (sc, .inl (cI, 140, .inl F)), (so, .inl (cI, 4, .inl S)), (tp, .inl (cI, 256, .inl (cUn F S f nb nb))), (ct, .inl (cI, 4, .inl C)), (sr, .inl (cI, 4, .inl R)), (oo, .inl (cJ, 1, .inr (.inl g)))] := hD
  refine wk_i (y := nI nb) hu1 ?_
  refine lv_i2l (v := (nI nb).toInt64) hx hb dL_run_8 rfl ?_
  refine va_last hx hb hK2 hP hD hS 6 1 rfl rfl (i := nI 0) (x := (nI nb).toInt64) (vp_in_nI (by decide) (by decide)) dL_run_9 (fun H locs hP hD hS => ?_)
  have hP : va_P D vwCl [(h0, .inr (0, [.ref kw, .int kb, .int (nI 1), .ref sc, .ref so, .ref tp, .int (nI (4 * nb)), .ref ct, .ref sr])), (sc, .inl (cI, 140, .inl F)), (so, .inl (cI, 4, .inl S)), (tp, .inl (cI, 256, .inl (cUn F S f nb nb))), (ct, .inl (cI, 4, .inl C)), (sr, .inl (cI, 4, .inl R)), (oo, .inl (cJ, 1, .inr (.inl (vp_updL g 0 ((nI nb).toInt64)))))] H := hP
  have hD : va_D A [(h0, .inr (0, [.ref kw, .int kb, .int (nI 1), .ref sc, .ref so, .ref tp, .int (nI (4 * nb)), .ref ct, .ref sr])), (sc, .inl (cI, 140, .inl F)), (so, .inl (cI, 4, .inl S)), (tp, .inl (cI, 256, .inl (cUn F S f nb nb))), (ct, .inl (cI, 4, .inl C)), (sr, .inl (cI, 4, .inl R)), (oo, .inl (cJ, 1, .inr (.inl (vp_updL g 0 ((nI nb).toInt64)))))] := hD
  refine lv_goto (tgt := 21) hx hb dL_run_10 (by decide) ?_
  refine lv_iconst (v := nI 0) hx hb dL_run_21 (by decide) ?_
  exact W.iret (v := nI 0) hx hb hr (fun t ht hW => ⟨⟨_, (fun _ _ => 0), rfl, rfl, by rw [ht]; exact hP, va_K.moved hW.alike hK2, hD⟩, hS.F ht⟩) hS.2.2 dL_run_22
set_option maxHeartbeats 4000000 in
set_option maxRecDepth 100000 in
theorem c_L_run2 (l : Launch) (D : va_G) (cI cJ : ClassId) (tb : Nat) (h0 kw sc so tp ct sr oo : Nat) (kb : Int32) (nb : Nat) (bb : Int32) (F S f C R : Nat → Int32) (g : Nat → Int64) (sz : Nat) (hnb : nb ≤ 64) : Met l yL_run wsL_run ({ frames := 6, cells := 0, slots := 0, locals := 144 }) (va_Pc [.ref h0, .int (nI 2), .int bb, .ref oo] (fun U => PW D [(cI, .int), (cJ, .long)] [(h0, .inr (0, [.ref kw, .int kb, .int (nI 1), .ref sc, .ref so, .ref tp, .int (nI (4 * nb)), .ref ct, .ref sr])), (sc, .inl (cI, 140, .inl F)), (so, .inl (cI, 4, .inl S)), (tp, .inl (cI, 256, .inl f)), (ct, .inl (cI, 4, .inl C)), (sr, .inl (cI, 4, .inl R)), (oo, .inl (cJ, 1, .inr (.inl g)))] sz U ∧ bxs tb (va_A [(h0, .inr (0, [.ref kw, .int kb, .int (nI 1), .ref sc, .ref so, .ref tp, .int (nI (4 * nb)), .ref ct, .ref sr])), (sc, .inl (cI, 140, .inl F)), (so, .inl (cI, 4, .inl S)), (tp, .inl (cI, 256, .inl f)), (ct, .inl (cI, 4, .inl C)), (sr, .inl (cI, 4, .inl R)), (oo, .inl (cJ, 1, .inr (.inl g)))] sz) U U.heap)) (va_Qi (fun r9 (u : Nat → Nat → Int32) => r9 = nI 0) (fun u => BW D [(cI, .int), (cJ, .long)] (va_A [(h0, .inr (0, [.ref kw, .int kb, .int (nI 1), .ref sc, .ref so, .ref tp, .int (nI (4 * nb)), .ref ct, .ref sr])), (sc, .inl (cI, 140, .inl F)), (so, .inl (cI, 4, .inl S)), (tp, .inl (cI, 256, .inl f)), (ct, .inl (cI, 4, .inl C)), (sr, .inl (cI, 4, .inl R)), (oo, .inl (cJ, 1, .inr (.inl g)))] sz) [(h0, .inr (0, [.ref kw, .int kb, .int (nI 1), .ref sc, .ref so, .ref tp, .int (nI (4 * nb)), .ref ct, .ref sr])), (sc, .inl (cI, 140, .inl F)), (so, .inl (cI, 4, .inl S)), (tp, .inl (cI, 256, .inl (cMT F (va_cpy S C 0 0 4) f nb))), (ct, .inl (cI, 4, .inl (cCnt (va_cpy S C 0 0 4) nb))), (sr, .inl (cI, 4, .inl (cMR F (va_cpy S C 0 0 4) R nb))), (oo, .inl (cJ, 1, .inr (.inl (vp_updL g 0 (nI nb).toInt64))))]) (va_A [(h0, .inr (0, [.ref kw, .int kb, .int (nI 1), .ref sc, .ref so, .ref tp, .int (nI (4 * nb)), .ref ct, .ref sr])), (sc, .inl (cI, 140, .inl F)), (so, .inl (cI, 4, .inl S)), (tp, .inl (cI, 256, .inl f)), (ct, .inl (cI, 4, .inl C)), (sr, .inl (cI, 4, .inl R)), (oo, .inl (cJ, 1, .inr (.inl g)))] sz)) 0 0 (va_A [(h0, .inr (0, [.ref kw, .int kb, .int (nI 1), .ref sc, .ref so, .ref tp, .int (nI (4 * nb)), .ref ct, .ref sr])), (sc, .inl (cI, 140, .inl F)), (so, .inl (cI, 4, .inl S)), (tp, .inl (cI, 256, .inl f)), (ct, .inl (cI, 4, .inl C)), (sr, .inl (cI, 4, .inl R)), (oo, .inl (cJ, 1, .inr (.inl g)))] sz) := by
  refine va_MetW (cc := cL_run) (maxL := 5) (ret := (some .int)) (hh := [(0, 10, 13, 19), (0, 10, 17, 25)]) (by decide) rfl ?_
  intro p e s m args below meth c s₁ B hml hv
  obtain ⟨rfl, ⟨hsz, hP, hK2, hD0⟩, hbx⟩ := hv
  have hK := hK2.sub (tys' := [(cI, .int)]) [0] rfl
  have hx := B.exec
  have hb := B.bytes
  have hr := B.returns
  have hts := atoms_spec (ws := wsL_run) B.pre
  have hown : s.vm.findClass RL = some m.cls := findClass_of_methodNamed B.named
  have hlocks := B.notSynchronized
  subst hsz
  have hD := hD0.self (sz := s.heap.size)
  generalize hAe : va_A [(h0, .inr (0, [.ref kw, .int kb, .int (nI 1), .ref sc, .ref so, .ref tp, .int (nI (4 * nb)), .ref ct, .ref sr])), (sc, .inl (cI, 140, .inl F)), (so, .inl (cI, 4, .inl S)), (tp, .inl (cI, 256, .inl f)), (ct, .inl (cI, 4, .inl C)), (sr, .inl (cI, 4, .inl R)), (oo, .inl (cJ, 1, .inr (.inl g)))] s.heap.size = A at hbx hD ⊢
  have hA : ∀ q : Nat, s.heap.size ≤ q → A q := fun q h => by rw [← hAe]; exact Or.inr h
  have hS : va_S A s.heap s.heap [] := va_S.rf
  have hl := lv_entry ([.ref h0, .int (nI 2), .int bb, .ref oo]) (n := 5) (Nat.le_of_ble_eq_true rfl)
  rw [lg_entry_eq]
  generalize (lg_sl ([.ref h0, .int (nI 2), .int bb, .ref oo]) ++ List.replicate (5 - (lg_sl ([.ref h0, .int (nI 2), .int bb, .ref oo])).length) Slot.unset).toArray = ls at hl ⊢
  have hl : lv_has ls 5 [(0, .ref h0), (1, .int (nI 2)), (2, .int bb), (3, .ref oo)] := hl
  refine lv_aload_n hx hb dL_run_0 rfl (lv_at hl 3 rfl) ?_
  refine lv_iconst (v := nI 0) hx hb dL_run_1 (by decide) ?_
  refine lv_aload_n hx hb dL_run_2 rfl (lv_at hl 0 rfl) ?_
  refine lv_iload_n hx hb dL_run_3 rfl (lv_at hl 1 rfl) ?_
  refine lv_iload_n hx hb dL_run_4 rfl (lv_at hl 2 rfl) ?_
  refine wk_VI (b := h0) (As := [.int (nI 2), .int bb]) (rest := [.int (nI 0), .ref oo]) (wc := [(h0, .inr (0, [.ref kw, .int kb, .int (nI 1), .ref sc, .ref so, .ref tp, .int (nI (4 * nb)), .ref ct, .ref sr])), (sc, .inl (cI, 140, .inl F)), (so, .inl (cI, 4, .inl S)), (tp, .inl (cI, 256, .inl f)), (ct, .inl (cI, 4, .inl C)), (sr, .inl (cI, 4, .inl R))]) (wr := [(oo, .inl (cJ, 1, .inr (.inl g)))]) (w1 := fun (u1 : Nat → Nat → Int32) => [(h0, .inr (0, [.ref kw, .int kb, .int (nI 1), .ref sc, .ref so, .ref tp, .int (nI (4 * nb)), .ref ct, .ref sr])), (sc, .inl (cI, 140, .inl F)), (so, .inl (cI, 4, .inl S)), (tp, .inl (cI, 256, .inl (cMT F (va_cpy S C 0 0 4) f nb))), (ct, .inl (cI, 4, .inl (cCnt (va_cpy S C 0 0 4) nb))), (sr, .inl (cI, 4, .inl (cMR F (va_cpy S C 0 0 4) R nb)))]) (w2 := fun (u1 : Nat → Nat → Int32) => [(h0, .inr (0, [.ref kw, .int kb, .int (nI 1), .ref sc, .ref so, .ref tp, .int (nI (4 * nb)), .ref ct, .ref sr])), (sc, .inl (cI, 140, .inl F)), (so, .inl (cI, 4, .inl S)), (tp, .inl (cI, 256, .inl (cMT F (va_cpy S C 0 0 4) f nb))), (ct, .inl (cI, 4, .inl (cCnt (va_cpy S C 0 0 4) nb))), (sr, .inl (cI, 4, .inl (cMR F (va_cpy S C 0 0 4) R nb))), (oo, .inl (cJ, 1, .inr (.inl g)))]) (ci := 0) (q0 := 0) ⟨hx, hb, hml, hown, hts⟩ (c_X0_run2 l D cI tb _ h0 kw sc so tp ct sr kb nb bb F S f C R hnb) (cwV 2 hts gL_run_X0_run rfl rfl rfl (by decide +kernel) ⟨Nat.le_of_ble_eq_true rfl, Nat.le_of_ble_eq_true rfl⟩) (fun V g mk a h => bxs.call g mk a h) (fun hF V hU hW => hbx.give hS hF hU hW) hK hP hD hS hA rfl rfl [0, 1, 2, 3, 4, 5] [6] rfl (by decide) rfl (by decide) (by decide) [1, 2, 3, 4, 5, 6, 0] (fun _ => rfl) (by decide) rfl hl.1 rfl (Nat.le_of_ble_eq_true rfl) dL_run_5 ⟨Nat.zero_le _, Nat.zero_le _⟩ (fun zu1 u1 H locs hu1 hP hD hS => ?_)
  have hP : va_P D vwCl [(h0, .inr (0, [.ref kw, .int kb, .int (nI 1), .ref sc, .ref so, .ref tp, .int (nI (4 * nb)), .ref ct, .ref sr])), (sc, .inl (cI, 140, .inl F)), (so, .inl (cI, 4, .inl S)), (tp, .inl (cI, 256, .inl (cMT F (va_cpy S C 0 0 4) f nb))), (ct, .inl (cI, 4, .inl (cCnt (va_cpy S C 0 0 4) nb))), (sr, .inl (cI, 4, .inl (cMR F (va_cpy S C 0 0 4) R nb))), (oo, .inl (cJ, 1, .inr (.inl g)))] H := hP
  have hD : va_D A [(h0, .inr (0, [.ref kw, .int kb, .int (nI 1), .ref sc, .ref so, .ref tp, .int (nI (4 * nb)), .ref ct, .ref sr])), (sc, .inl (cI, 140, .inl F)), (so, .inl (cI, 4, .inl S)), (tp, .inl (cI, 256, .inl (cMT F (va_cpy S C 0 0 4) f nb))), (ct, .inl (cI, 4, .inl (cCnt (va_cpy S C 0 0 4) nb))), (sr, .inl (cI, 4, .inl (cMR F (va_cpy S C 0 0 4) R nb))), (oo, .inl (cJ, 1, .inr (.inl g)))] := hD
  refine wk_i (y := nI nb) hu1 ?_
  refine lv_i2l (v := (nI nb).toInt64) hx hb dL_run_8 rfl ?_
  refine va_last hx hb hK2 hP hD hS 6 1 rfl rfl (i := nI 0) (x := (nI nb).toInt64) (vp_in_nI (by decide) (by decide)) dL_run_9 (fun H locs hP hD hS => ?_)
  have hP : va_P D vwCl [(h0, .inr (0, [.ref kw, .int kb, .int (nI 1), .ref sc, .ref so, .ref tp, .int (nI (4 * nb)), .ref ct, .ref sr])), (sc, .inl (cI, 140, .inl F)), (so, .inl (cI, 4, .inl S)), (tp, .inl (cI, 256, .inl (cMT F (va_cpy S C 0 0 4) f nb))), (ct, .inl (cI, 4, .inl (cCnt (va_cpy S C 0 0 4) nb))), (sr, .inl (cI, 4, .inl (cMR F (va_cpy S C 0 0 4) R nb))), (oo, .inl (cJ, 1, .inr (.inl (vp_updL g 0 ((nI nb).toInt64)))))] H := hP
  have hD : va_D A [(h0, .inr (0, [.ref kw, .int kb, .int (nI 1), .ref sc, .ref so, .ref tp, .int (nI (4 * nb)), .ref ct, .ref sr])), (sc, .inl (cI, 140, .inl F)), (so, .inl (cI, 4, .inl S)), (tp, .inl (cI, 256, .inl (cMT F (va_cpy S C 0 0 4) f nb))), (ct, .inl (cI, 4, .inl (cCnt (va_cpy S C 0 0 4) nb))), (sr, .inl (cI, 4, .inl (cMR F (va_cpy S C 0 0 4) R nb))), (oo, .inl (cJ, 1, .inr (.inl (vp_updL g 0 ((nI nb).toInt64)))))] := hD
  refine lv_goto (tgt := 21) hx hb dL_run_10 (by decide) ?_
  refine lv_iconst (v := nI 0) hx hb dL_run_21 (by decide) ?_
  exact W.iret (v := nI 0) hx hb hr (fun t ht hW => ⟨⟨_, (fun _ _ => 0), rfl, rfl, by rw [ht]; exact hP, va_K.moved hW.alike hK2, hD⟩, hS.F ht⟩) hS.2.2 dL_run_22
set_option maxHeartbeats 4000000 in
set_option maxRecDepth 100000 in
theorem c_L_run0 (l : Launch) (hlt : l.stackTraces = false) (D : va_G) (cI cJ : ClassId) (sa : Nat) (h0 kw sc so tp ct sr oo : Nat) (kb kr tl : Int32) (i bb : Int32) (g : Nat → Int64) (sz : Nat) (hbad : i < nI 0 ∨ (¬ i < nI 0 ∧ ¬ i ≤ nI 2)) : Met l yL_run wsL_run ({ frames := 8, cells := 1, slots := 6, locals := 134 }) (va_Pc [.ref h0, .int i, .int bb, .ref oo] (fun U => PW D [(cI, .int), (cJ, .long)] [(h0, .inr (0, [.ref kw, .int kb, .int kr, .ref sc, .ref so, .ref tp, .int tl, .ref ct, .ref sr])), (oo, .inl (cJ, 1, .inr (.inl g)))] sz U ∧ thw "java/lang/IllegalArgumentException" 97 "no such mode" sa (va_A [(h0, .inr (0, [.ref kw, .int kb, .int kr, .ref sc, .ref so, .ref tp, .int tl, .ref ct, .ref sr])), (oo, .inl (cJ, 1, .inr (.inl g)))] sz) U U.heap)) (va_Qi (fun r9 (u : Nat → Nat → Int32) => r9 = nI 1) (fun u => BW D [(cI, .int), (cJ, .long)] (va_A [(h0, .inr (0, [.ref kw, .int kb, .int kr, .ref sc, .ref so, .ref tp, .int tl, .ref ct, .ref sr])), (oo, .inl (cJ, 1, .inr (.inl g)))] sz) [(h0, .inr (0, [.ref kw, .int kb, .int kr, .ref sc, .ref so, .ref tp, .int tl, .ref ct, .ref sr])), (oo, .inl (cJ, 1, .inr (.inl g)))]) (va_A [(h0, .inr (0, [.ref kw, .int kb, .int kr, .ref sc, .ref so, .ref tp, .int tl, .ref ct, .ref sr])), (oo, .inl (cJ, 1, .inr (.inl g)))] sz)) 1 6 (va_A [(h0, .inr (0, [.ref kw, .int kb, .int kr, .ref sc, .ref so, .ref tp, .int tl, .ref ct, .ref sr])), (oo, .inl (cJ, 1, .inr (.inl g)))] sz) := by
  refine va_MetW (cc := cL_run) (maxL := 5) (ret := (some .int)) (hh := [(0, 10, 13, 19), (0, 10, 17, 25)]) (by decide) rfl ?_
  intro p e s m args below meth c s₁ B hml hv
  obtain ⟨rfl, ⟨hsz, hP, hK2, hD0⟩, hth⟩ := hv
  have hK := hK2.sub (tys' := [(cI, .int)]) [0] rfl
  have hx := B.exec
  have hb := B.bytes
  have hr := B.returns
  have hts := atoms_spec (ws := wsL_run) B.pre
  have hown : s.vm.findClass RL = some m.cls := findClass_of_methodNamed B.named
  have hlocks := B.notSynchronized
  subst hsz
  have hD := hD0.self (sz := s.heap.size)
  generalize hAe : va_A [(h0, .inr (0, [.ref kw, .int kb, .int kr, .ref sc, .ref so, .ref tp, .int tl, .ref ct, .ref sr])), (oo, .inl (cJ, 1, .inr (.inl g)))] s.heap.size = A at hth hD ⊢
  have hA : ∀ q : Nat, s.heap.size ≤ q → A q := fun q h => by rw [← hAe]; exact Or.inr h
  have hS : va_S A s.heap s.heap [] := va_S.rf
  have hl := lv_entry ([.ref h0, .int i, .int bb, .ref oo]) (n := 5) (Nat.le_of_ble_eq_true rfl)
  rw [lg_entry_eq]
  generalize (lg_sl ([.ref h0, .int i, .int bb, .ref oo]) ++ List.replicate (5 - (lg_sl ([.ref h0, .int i, .int bb, .ref oo])).length) Slot.unset).toArray = ls at hl ⊢
  have hl : lv_has ls 5 [(0, .ref h0), (1, .int i), (2, .int bb), (3, .ref oo)] := hl
  refine lv_aload_n hx hb dL_run_0 rfl (lv_at hl 3 rfl) ?_
  refine lv_iconst (v := nI 0) hx hb dL_run_1 (by decide) ?_
  refine lv_aload_n hx hb dL_run_2 rfl (lv_at hl 0 rfl) ?_
  refine lv_iload_n hx hb dL_run_3 rfl (lv_at hl 1 rfl) ?_
  refine lv_iload_n hx hb dL_run_4 rfl (lv_at hl 2 rfl) ?_
  refine wk_Vxi (b := h0) (As := [.int i, .int bb]) (rest := [.int (nI 0), .ref oo]) (wc := [(h0, .inr (0, [.ref kw, .int kb, .int kr, .ref sc, .ref so, .ref tp, .int tl, .ref ct, .ref sr]))]) (wr := [(oo, .inl (cJ, 1, .inr (.inl g)))]) (ci := 0) (q0 := 0) ⟨hx, hb, hml, hown, hts⟩ (c_X0_run0 l hlt D cI sa h0 kw sc so tp ct sr kb kr tl i bb _ hbad) (cwV 2 hts gL_run_X0_run rfl rfl rfl (by decide +kernel) ⟨Nat.le_of_ble_eq_true rfl, Nat.le_of_ble_eq_true rfl⟩) (fun V g mk a h => thw.call g mk a h) (fun hF V hU hW => hth.give hS hF hU hW) hK hP hD hS hA rfl rfl [0] [1] rfl (by decide) rfl (by decide) (by decide) [1, 0] rfl (by decide) rfl hl.1 rfl (Nat.le_of_ble_eq_true rfl) dL_run_5 ⟨Nat.le_of_ble_eq_true rfl, Nat.le_of_ble_eq_true rfl⟩ (fun ce q9 H locs hP hD hS hce hcv hcl => ?_)
  have hsp : c.exceptionTable.toList = tableOf [(0, 10, 13, 19), (0, 10, 17, 25)] := vx_table (x := yL_run) B (hts _ List.mem_cons_self)
  refine vx_catch (own := RL) (name := "java/lang/IllegalArgumentException") hown [] ⟨0, 10, 13, 19⟩ [⟨0, 10, 17, 25⟩] hsp (fun z hz => absurd hz List.not_mem_nil) (by decide) (by decide) (hts (.classLink RL 19 "java/lang/IllegalArgumentException") (by decide +kernel)) (va_Nw.use rfl hth.2.2.2.1) hce hcv hcl ?_
  refine lv_astore (lv' := [(4, .ref q9), (0, .ref h0), (1, .int i), (2, .int bb), (3, .ref oo)]) hx hb dL_run_13 hl (by decide) rfl (fun ls hl => ?_)
  refine lv_iconst (v := nI 1) hx hb dL_run_15 (by decide) ?_
  exact W.iret (v := nI 1) hx hb hr (fun t ht hW => ⟨⟨_, (fun _ _ => 0), rfl, rfl, by rw [ht]; exact hP, va_K.moved hW.alike hK2, hD⟩, hS.F ht⟩) hS.2.2 dL_run_16
set_option maxHeartbeats 4000000 in
set_option maxRecDepth 100000 in
theorem c_L_run2a (l : Launch) (hlt : l.stackTraces = false) (D : va_G) (cI cJ : ClassId) (sa : Nat) (h0 kw sc so tp ct sr oo : Nat) (kb tl : Int32) (k : Nat) (bb : Int32) (g : Nat → Int64) (sz : Nat) (hk : k ≤ 2) : Met l yL_run wsL_run ({ frames := 8, cells := 1, slots := 6, locals := 134 }) (va_Pc [.ref h0, .int (nI k), .int bb, .ref oo] (fun U => PW D [(cI, .int), (cJ, .long)] [(h0, .inr (0, [.ref kw, .int kb, .int (nI 0), .ref sc, .ref so, .ref tp, .int tl, .ref ct, .ref sr])), (oo, .inl (cJ, 1, .inr (.inl g)))] sz U ∧ (thw "java/lang/IllegalStateException" 125 "the key is not ready" sa (va_A [(h0, .inr (0, [.ref kw, .int kb, .int (nI 0), .ref sc, .ref so, .ref tp, .int tl, .ref ct, .ref sr])), (oo, .inl (cJ, 1, .inr (.inl g)))] sz) U U.heap ∧ va_Nc "java/lang/IllegalStateException" "java/lang/IllegalArgumentException" U))) (va_Qi (fun r9 (u : Nat → Nat → Int32) => r9 = nI 2) (fun u => BW D [(cI, .int), (cJ, .long)] (va_A [(h0, .inr (0, [.ref kw, .int kb, .int (nI 0), .ref sc, .ref so, .ref tp, .int tl, .ref ct, .ref sr])), (oo, .inl (cJ, 1, .inr (.inl g)))] sz) [(h0, .inr (0, [.ref kw, .int kb, .int (nI 0), .ref sc, .ref so, .ref tp, .int tl, .ref ct, .ref sr])), (oo, .inl (cJ, 1, .inr (.inl g)))]) (va_A [(h0, .inr (0, [.ref kw, .int kb, .int (nI 0), .ref sc, .ref so, .ref tp, .int tl, .ref ct, .ref sr])), (oo, .inl (cJ, 1, .inr (.inl g)))] sz)) 1 6 (va_A [(h0, .inr (0, [.ref kw, .int kb, .int (nI 0), .ref sc, .ref so, .ref tp, .int tl, .ref ct, .ref sr])), (oo, .inl (cJ, 1, .inr (.inl g)))] sz) := by
  refine va_MetW (cc := cL_run) (maxL := 5) (ret := (some .int)) (hh := [(0, 10, 13, 19), (0, 10, 17, 25)]) (by decide) rfl ?_
  intro p e s m args below meth c s₁ B hml hv
  obtain ⟨rfl, ⟨hsz, hP, hK2, hD0⟩, ⟨hth, hnc⟩⟩ := hv
  have hK := hK2.sub (tys' := [(cI, .int)]) [0] rfl
  have hx := B.exec
  have hb := B.bytes
  have hr := B.returns
  have hts := atoms_spec (ws := wsL_run) B.pre
  have hown : s.vm.findClass RL = some m.cls := findClass_of_methodNamed B.named
  have hlocks := B.notSynchronized
  subst hsz
  have hD := hD0.self (sz := s.heap.size)
  generalize hAe : va_A [(h0, .inr (0, [.ref kw, .int kb, .int (nI 0), .ref sc, .ref so, .ref tp, .int tl, .ref ct, .ref sr])), (oo, .inl (cJ, 1, .inr (.inl g)))] s.heap.size = A at hth hD ⊢
  have hA : ∀ q : Nat, s.heap.size ≤ q → A q := fun q h => by rw [← hAe]; exact Or.inr h
  have hS : va_S A s.heap s.heap [] := va_S.rf
  have hl := lv_entry ([.ref h0, .int (nI k), .int bb, .ref oo]) (n := 5) (Nat.le_of_ble_eq_true rfl)
  rw [lg_entry_eq]
  generalize (lg_sl ([.ref h0, .int (nI k), .int bb, .ref oo]) ++ List.replicate (5 - (lg_sl ([.ref h0, .int (nI k), .int bb, .ref oo])).length) Slot.unset).toArray = ls at hl ⊢
  have hl : lv_has ls 5 [(0, .ref h0), (1, .int (nI k)), (2, .int bb), (3, .ref oo)] := hl
  refine lv_aload_n hx hb dL_run_0 rfl (lv_at hl 3 rfl) ?_
  refine lv_iconst (v := nI 0) hx hb dL_run_1 (by decide) ?_
  refine lv_aload_n hx hb dL_run_2 rfl (lv_at hl 0 rfl) ?_
  refine lv_iload_n hx hb dL_run_3 rfl (lv_at hl 1 rfl) ?_
  refine lv_iload_n hx hb dL_run_4 rfl (lv_at hl 2 rfl) ?_
  refine wk_Vxi (b := h0) (As := [.int (nI k), .int bb]) (rest := [.int (nI 0), .ref oo]) (wc := [(h0, .inr (0, [.ref kw, .int kb, .int (nI 0), .ref sc, .ref so, .ref tp, .int tl, .ref ct, .ref sr]))]) (wr := [(oo, .inl (cJ, 1, .inr (.inl g)))]) (ci := 0) (q0 := 0) ⟨hx, hb, hml, hown, hts⟩ (c_X0_run2a l hlt D cI sa h0 kw sc so tp ct sr kb tl k bb _ hk) (cwV 2 hts gL_run_X0_run rfl rfl rfl (by decide +kernel) ⟨Nat.le_of_ble_eq_true rfl, Nat.le_of_ble_eq_true rfl⟩) (fun V g mk a h => thw.call g mk a h) (fun hF V hU hW => hth.give hS hF hU hW) hK hP hD hS hA rfl rfl [0] [1] rfl (by decide) rfl (by decide) (by decide) [1, 0] rfl (by decide) rfl hl.1 rfl (Nat.le_of_ble_eq_true rfl) dL_run_5 ⟨Nat.le_of_ble_eq_true rfl, Nat.le_of_ble_eq_true rfl⟩ (fun ce q9 H locs hP hD hS hce hcv hcl => ?_)
  have hsp : c.exceptionTable.toList = tableOf [(0, 10, 13, 19), (0, 10, 17, 25)] := vx_table (x := yL_run) B (hts _ List.mem_cons_self)
  refine vx_catch (own := RL) (name := "java/lang/IllegalStateException") hown [⟨0, 10, 13, 19⟩] ⟨0, 10, 17, 25⟩ [] hsp (fun z hz => by rw [List.mem_singleton.mp hz]; exact Or.inr ⟨by decide, "java/lang/IllegalArgumentException", hts (.classLink RL 19 "java/lang/IllegalArgumentException") (by decide +kernel), hnc⟩) (by decide) (by decide) (hts (.classLink RL 25 "java/lang/IllegalStateException") (by decide +kernel)) (va_Nw.use rfl hth.2.2.2.1) hce hcv hcl ?_
  refine lv_astore (lv' := [(4, .ref q9), (0, .ref h0), (1, .int (nI k)), (2, .int bb), (3, .ref oo)]) hx hb dL_run_17 hl (by decide) rfl (fun ls hl => ?_)
  refine lv_iconst (v := nI 2) hx hb dL_run_19 (by decide) ?_
  exact W.iret (v := nI 2) hx hb hr (fun t ht hW => ⟨⟨_, (fun _ _ => 0), rfl, rfl, by rw [ht]; exact hP, va_K.moved hW.alike hK2, hD⟩, hS.F ht⟩) hS.2.2 dL_run_20
set_option maxHeartbeats 4000000 in
set_option maxRecDepth 100000 in
theorem c_L_run2b (l : Launch) (hlt : l.stackTraces = false) (D : va_G) (cI cJ : ClassId) (sa : Nat) (h0 kw sc so tp ct sr oo : Nat) (kb : Int32) (sz0 k : Nat) (bb : Int32) (g : Nat → Int64) (sz : Nat) (hz : sz0 ≤ 256) (h4 : sz0 % 4 ≠ 0) (hk : k ≤ 2) : Met l yL_run wsL_run ({ frames := 8, cells := 1, slots := 6, locals := 134 }) (va_Pc [.ref h0, .int (nI k), .int bb, .ref oo] (fun U => PW D [(cI, .int), (cJ, .long)] [(h0, .inr (0, [.ref kw, .int kb, .int (nI 1), .ref sc, .ref so, .ref tp, .int (nI sz0), .ref ct, .ref sr])), (oo, .inl (cJ, 1, .inr (.inl g)))] sz U ∧ (thw "java/lang/IllegalStateException" 127 "the tape ends within a block" sa (va_A [(h0, .inr (0, [.ref kw, .int kb, .int (nI 1), .ref sc, .ref so, .ref tp, .int (nI sz0), .ref ct, .ref sr])), (oo, .inl (cJ, 1, .inr (.inl g)))] sz) U U.heap ∧ va_Nc "java/lang/IllegalStateException" "java/lang/IllegalArgumentException" U))) (va_Qi (fun r9 (u : Nat → Nat → Int32) => r9 = nI 2) (fun u => BW D [(cI, .int), (cJ, .long)] (va_A [(h0, .inr (0, [.ref kw, .int kb, .int (nI 1), .ref sc, .ref so, .ref tp, .int (nI sz0), .ref ct, .ref sr])), (oo, .inl (cJ, 1, .inr (.inl g)))] sz) [(h0, .inr (0, [.ref kw, .int kb, .int (nI 1), .ref sc, .ref so, .ref tp, .int (nI sz0), .ref ct, .ref sr])), (oo, .inl (cJ, 1, .inr (.inl g)))]) (va_A [(h0, .inr (0, [.ref kw, .int kb, .int (nI 1), .ref sc, .ref so, .ref tp, .int (nI sz0), .ref ct, .ref sr])), (oo, .inl (cJ, 1, .inr (.inl g)))] sz)) 1 6 (va_A [(h0, .inr (0, [.ref kw, .int kb, .int (nI 1), .ref sc, .ref so, .ref tp, .int (nI sz0), .ref ct, .ref sr])), (oo, .inl (cJ, 1, .inr (.inl g)))] sz) := by
  refine va_MetW (cc := cL_run) (maxL := 5) (ret := (some .int)) (hh := [(0, 10, 13, 19), (0, 10, 17, 25)]) (by decide) rfl ?_
  intro p e s m args below meth c s₁ B hml hv
  obtain ⟨rfl, ⟨hsz, hP, hK2, hD0⟩, ⟨hth, hnc⟩⟩ := hv
  have hK := hK2.sub (tys' := [(cI, .int)]) [0] rfl
  have hx := B.exec
  have hb := B.bytes
  have hr := B.returns
  have hts := atoms_spec (ws := wsL_run) B.pre
  have hown : s.vm.findClass RL = some m.cls := findClass_of_methodNamed B.named
  have hlocks := B.notSynchronized
  subst hsz
  have hD := hD0.self (sz := s.heap.size)
  generalize hAe : va_A [(h0, .inr (0, [.ref kw, .int kb, .int (nI 1), .ref sc, .ref so, .ref tp, .int (nI sz0), .ref ct, .ref sr])), (oo, .inl (cJ, 1, .inr (.inl g)))] s.heap.size = A at hth hD ⊢
  have hA : ∀ q : Nat, s.heap.size ≤ q → A q := fun q h => by rw [← hAe]; exact Or.inr h
  have hS : va_S A s.heap s.heap [] := va_S.rf
  have hl := lv_entry ([.ref h0, .int (nI k), .int bb, .ref oo]) (n := 5) (Nat.le_of_ble_eq_true rfl)
  rw [lg_entry_eq]
  generalize (lg_sl ([.ref h0, .int (nI k), .int bb, .ref oo]) ++ List.replicate (5 - (lg_sl ([.ref h0, .int (nI k), .int bb, .ref oo])).length) Slot.unset).toArray = ls at hl ⊢
  have hl : lv_has ls 5 [(0, .ref h0), (1, .int (nI k)), (2, .int bb), (3, .ref oo)] := hl
  refine lv_aload_n hx hb dL_run_0 rfl (lv_at hl 3 rfl) ?_
  refine lv_iconst (v := nI 0) hx hb dL_run_1 (by decide) ?_
  refine lv_aload_n hx hb dL_run_2 rfl (lv_at hl 0 rfl) ?_
  refine lv_iload_n hx hb dL_run_3 rfl (lv_at hl 1 rfl) ?_
  refine lv_iload_n hx hb dL_run_4 rfl (lv_at hl 2 rfl) ?_
  refine wk_Vxi (b := h0) (As := [.int (nI k), .int bb]) (rest := [.int (nI 0), .ref oo]) (wc := [(h0, .inr (0, [.ref kw, .int kb, .int (nI 1), .ref sc, .ref so, .ref tp, .int (nI sz0), .ref ct, .ref sr]))]) (wr := [(oo, .inl (cJ, 1, .inr (.inl g)))]) (ci := 0) (q0 := 0) ⟨hx, hb, hml, hown, hts⟩ (c_X0_run2b l hlt D cI sa h0 kw sc so tp ct sr kb sz0 k bb _ hz h4 hk) (cwV 2 hts gL_run_X0_run rfl rfl rfl (by decide +kernel) ⟨Nat.le_of_ble_eq_true rfl, Nat.le_of_ble_eq_true rfl⟩) (fun V g mk a h => thw.call g mk a h) (fun hF V hU hW => hth.give hS hF hU hW) hK hP hD hS hA rfl rfl [0] [1] rfl (by decide) rfl (by decide) (by decide) [1, 0] rfl (by decide) rfl hl.1 rfl (Nat.le_of_ble_eq_true rfl) dL_run_5 ⟨Nat.le_of_ble_eq_true rfl, Nat.le_of_ble_eq_true rfl⟩ (fun ce q9 H locs hP hD hS hce hcv hcl => ?_)
  have hsp : c.exceptionTable.toList = tableOf [(0, 10, 13, 19), (0, 10, 17, 25)] := vx_table (x := yL_run) B (hts _ List.mem_cons_self)
  refine vx_catch (own := RL) (name := "java/lang/IllegalStateException") hown [⟨0, 10, 13, 19⟩] ⟨0, 10, 17, 25⟩ [] hsp (fun z hz => by rw [List.mem_singleton.mp hz]; exact Or.inr ⟨by decide, "java/lang/IllegalArgumentException", hts (.classLink RL 19 "java/lang/IllegalArgumentException") (by decide +kernel), hnc⟩) (by decide) (by decide) (hts (.classLink RL 25 "java/lang/IllegalStateException") (by decide +kernel)) (va_Nw.use rfl hth.2.2.2.1) hce hcv hcl ?_
  refine lv_astore (lv' := [(4, .ref q9), (0, .ref h0), (1, .int (nI k)), (2, .int bb), (3, .ref oo)]) hx hb dL_run_17 hl (by decide) rfl (fun ls hl => ?_)
  refine lv_iconst (v := nI 2) hx hb dL_run_19 (by decide) ?_
  exact W.iret (v := nI 2) hx hb hr (fun t ht hW => ⟨⟨_, (fun _ _ => 0), rfl, rfl, by rw [ht]; exact hP, va_K.moved hW.alike hK2, hD⟩, hS.F ht⟩) hS.2.2 dL_run_20
set_option maxHeartbeats 4000000 in
set_option maxRecDepth 100000 in
theorem c_L_seal1 (l : Launch) (D : va_G) (cI cJ : ClassId) (tb : Nat) (h0 kw sc so tp ct sr oo : Nat) (kb : Int32) (nb q : Nat) (F f R : Nat → Int32) (g : Nat → Int64) (sz : Nat) (hnb : nb ≤ 64) (hq : q < 4) : Met l yL_seal wsL_seal ({ frames := 5, cells := 0, slots := 0, locals := 122 }) (va_Pc [.ref h0, .int (nI q), .ref oo] (fun U => PW D [(cI, .int), (cJ, .long)] [(h0, .inr (0, [.ref kw, .int kb, .int (nI 1), .ref sc, .ref so, .ref tp, .int (nI (4 * nb)), .ref ct, .ref sr])), (sc, .inl (cI, 140, .inl F)), (tp, .inl (cI, 256, .inl f)), (sr, .inl (cI, 4, .inl R)), (oo, .inl (cJ, 1, .inr (.inl g)))] sz U ∧ bxs tb (va_A [(h0, .inr (0, [.ref kw, .int kb, .int (nI 1), .ref sc, .ref so, .ref tp, .int (nI (4 * nb)), .ref ct, .ref sr])), (sc, .inl (cI, 140, .inl F)), (tp, .inl (cI, 256, .inl f)), (sr, .inl (cI, 4, .inl R)), (oo, .inl (cJ, 1, .inr (.inl g)))] sz) U U.heap)) (va_Qi (fun r9 (u : Nat → Nat → Int32) => r9 = nI 0) (fun u => BW D [(cI, .int), (cJ, .long)] (va_A [(h0, .inr (0, [.ref kw, .int kb, .int (nI 1), .ref sc, .ref so, .ref tp, .int (nI (4 * nb)), .ref ct, .ref sr])), (sc, .inl (cI, 140, .inl F)), (tp, .inl (cI, 256, .inl f)), (sr, .inl (cI, 4, .inl R)), (oo, .inl (cJ, 1, .inr (.inl g)))] sz) [(h0, .inr (0, [.ref kw, .int kb, .int (nI 1), .ref sc, .ref so, .ref tp, .int (nI (4 * nb)), .ref ct, .ref sr])), (sc, .inl (cI, 140, .inl F)), (tp, .inl (cI, 256, .inl f)), (sr, .inl (cI, 4, .inl (u 0))), (oo, .inl (cJ, 1, .inr (.inl (vp_updL g 0 (qs (slQ F f nb) q).toInt64))))]) (va_A [(h0, .inr (0, [.ref kw, .int kb, .int (nI 1), .ref sc, .ref so, .ref tp, .int (nI (4 * nb)), .ref ct, .ref sr])), (sc, .inl (cI, 140, .inl F)), (tp, .inl (cI, 256, .inl f)), (sr, .inl (cI, 4, .inl R)), (oo, .inl (cJ, 1, .inr (.inl g)))] sz)) 0 0 (va_A [(h0, .inr (0, [.ref kw, .int kb, .int (nI 1), .ref sc, .ref so, .ref tp, .int (nI (4 * nb)), .ref ct, .ref sr])), (sc, .inl (cI, 140, .inl F)), (tp, .inl (cI, 256, .inl f)), (sr, .inl (cI, 4, .inl R)), (oo, .inl (cJ, 1, .inr (.inl g)))] sz) := by
  refine va_MetW (cc := cL_seal) (maxL := 4) (ret := (some .int)) (hh := [(0, 9, 12, 13), (0, 9, 15, 25)]) (by decide) rfl ?_
  intro p e s m args below meth c s₁ B hml hv
  obtain ⟨rfl, ⟨hsz, hP, hK2, hD0⟩, hbx⟩ := hv
  have hK := hK2.sub (tys' := [(cI, .int)]) [0] rfl
  have hx := B.exec
  have hb := B.bytes
  have hr := B.returns
  have hts := atoms_spec (ws := wsL_seal) B.pre
  have hown : s.vm.findClass RL = some m.cls := findClass_of_methodNamed B.named
  have hlocks := B.notSynchronized
  subst hsz
  have hD := hD0.self (sz := s.heap.size)
  generalize hAe : va_A [(h0, .inr (0, [.ref kw, .int kb, .int (nI 1), .ref sc, .ref so, .ref tp, .int (nI (4 * nb)), .ref ct, .ref sr])), (sc, .inl (cI, 140, .inl F)), (tp, .inl (cI, 256, .inl f)), (sr, .inl (cI, 4, .inl R)), (oo, .inl (cJ, 1, .inr (.inl g)))] s.heap.size = A at hbx hD ⊢
  have hA : ∀ q : Nat, s.heap.size ≤ q → A q := fun q h => by rw [← hAe]; exact Or.inr h
  have hS : va_S A s.heap s.heap [] := va_S.rf
  have hl := lv_entry ([.ref h0, .int (nI q), .ref oo]) (n := 4) (Nat.le_of_ble_eq_true rfl)
  rw [lg_entry_eq]
  generalize (lg_sl ([.ref h0, .int (nI q), .ref oo]) ++ List.replicate (4 - (lg_sl ([.ref h0, .int (nI q), .ref oo])).length) Slot.unset).toArray = ls at hl ⊢
  have hl : lv_has ls 4 [(0, .ref h0), (1, .int (nI q)), (2, .ref oo)] := hl
  refine lv_aload_n hx hb dL_seal_0 rfl (lv_at hl 2 rfl) ?_
  refine lv_iconst (v := nI 0) hx hb dL_seal_1 (by decide) ?_
  refine lv_aload_n hx hb dL_seal_2 rfl (lv_at hl 0 rfl) ?_
  refine lv_iload_n hx hb dL_seal_3 rfl (lv_at hl 1 rfl) ?_
  refine wk_VI (b := h0) (As := [.int (nI q)]) (rest := [.int (nI 0), .ref oo]) (wc := [(h0, .inr (0, [.ref kw, .int kb, .int (nI 1), .ref sc, .ref so, .ref tp, .int (nI (4 * nb)), .ref ct, .ref sr])), (sc, .inl (cI, 140, .inl F)), (tp, .inl (cI, 256, .inl f)), (sr, .inl (cI, 4, .inl R))]) (wr := [(oo, .inl (cJ, 1, .inr (.inl g)))]) (w1 := fun (u1 : Nat → Nat → Int32) => [(h0, .inr (0, [.ref kw, .int kb, .int (nI 1), .ref sc, .ref so, .ref tp, .int (nI (4 * nb)), .ref ct, .ref sr])), (sc, .inl (cI, 140, .inl F)), (tp, .inl (cI, 256, .inl f)), (sr, .inl (cI, 4, .inl (u1 0)))]) (w2 := fun (u1 : Nat → Nat → Int32) => [(h0, .inr (0, [.ref kw, .int kb, .int (nI 1), .ref sc, .ref so, .ref tp, .int (nI (4 * nb)), .ref ct, .ref sr])), (sc, .inl (cI, 140, .inl F)), (tp, .inl (cI, 256, .inl f)), (sr, .inl (cI, 4, .inl (u1 0))), (oo, .inl (cJ, 1, .inr (.inl g)))]) (ci := 0) (q0 := 0) ⟨hx, hb, hml, hown, hts⟩ (c_X0_seal1 l D cI tb _ h0 kw sc so tp ct sr kb nb q F f R hnb hq) (cwV 1 hts gL_seal_X0_seal rfl rfl rfl (by decide +kernel) ⟨Nat.le_of_ble_eq_true rfl, Nat.le_of_ble_eq_true rfl⟩) (fun V g mk a h => bxs.call g mk a h) (fun hF V hU hW => hbx.give hS hF hU hW) hK hP hD hS hA rfl rfl [0, 1, 2, 3] [4] rfl (by decide) rfl (by decide) (by decide) [1, 2, 3, 4, 0] (fun _ => rfl) (by decide) rfl hl.1 rfl (Nat.le_of_ble_eq_true rfl) dL_seal_4 ⟨Nat.zero_le _, Nat.zero_le _⟩ (fun zu1 u1 H locs hu1 hP hD hS => ?_)
  have hP : va_P D vwCl [(h0, .inr (0, [.ref kw, .int kb, .int (nI 1), .ref sc, .ref so, .ref tp, .int (nI (4 * nb)), .ref ct, .ref sr])), (sc, .inl (cI, 140, .inl F)), (tp, .inl (cI, 256, .inl f)), (sr, .inl (cI, 4, .inl (u1 0))), (oo, .inl (cJ, 1, .inr (.inl g)))] H := hP
  have hD : va_D A [(h0, .inr (0, [.ref kw, .int kb, .int (nI 1), .ref sc, .ref so, .ref tp, .int (nI (4 * nb)), .ref ct, .ref sr])), (sc, .inl (cI, 140, .inl F)), (tp, .inl (cI, 256, .inl f)), (sr, .inl (cI, 4, .inl (u1 0))), (oo, .inl (cJ, 1, .inr (.inl g)))] := hD
  refine wk_i (y := qs (slQ F f nb) q) hu1 ?_
  refine lv_i2l (v := (qs (slQ F f nb) q).toInt64) hx hb dL_seal_7 rfl ?_
  refine va_last hx hb hK2 hP hD hS 4 1 rfl rfl (i := nI 0) (x := (qs (slQ F f nb) q).toInt64) (vp_in_nI (by decide) (by decide)) dL_seal_8 (fun H locs hP hD hS => ?_)
  have hP : va_P D vwCl [(h0, .inr (0, [.ref kw, .int kb, .int (nI 1), .ref sc, .ref so, .ref tp, .int (nI (4 * nb)), .ref ct, .ref sr])), (sc, .inl (cI, 140, .inl F)), (tp, .inl (cI, 256, .inl f)), (sr, .inl (cI, 4, .inl (u1 0))), (oo, .inl (cJ, 1, .inr (.inl (vp_updL g 0 ((qs (slQ F f nb) q).toInt64)))))] H := hP
  have hD : va_D A [(h0, .inr (0, [.ref kw, .int kb, .int (nI 1), .ref sc, .ref so, .ref tp, .int (nI (4 * nb)), .ref ct, .ref sr])), (sc, .inl (cI, 140, .inl F)), (tp, .inl (cI, 256, .inl f)), (sr, .inl (cI, 4, .inl (u1 0))), (oo, .inl (cJ, 1, .inr (.inl (vp_updL g 0 ((qs (slQ F f nb) q).toInt64)))))] := hD
  refine lv_goto (tgt := 18) hx hb dL_seal_9 (by decide) ?_
  refine lv_iconst (v := nI 0) hx hb dL_seal_18 (by decide) ?_
  exact W.iret (v := nI 0) hx hb hr (fun t ht hW => ⟨⟨_, (fun _ => u1 0), rfl, rfl, by rw [ht]; exact hP, va_K.moved hW.alike hK2, hD⟩, hS.F ht⟩) hS.2.2 dL_seal_19
set_option maxHeartbeats 4000000 in
set_option maxRecDepth 100000 in
theorem c_L_seal0 (l : Launch) (hlt : l.stackTraces = false) (D : va_G) (cI cJ : ClassId) (sa : Nat) (h0 kw sc so tp ct sr oo : Nat) (kb kr tl : Int32) (i : Int32) (g : Nat → Int64) (sz : Nat) (hbad : i < nI 0 ∨ (¬ i < nI 0 ∧ ¬ i < nI 4)) : Met l yL_seal wsL_seal ({ frames := 8, cells := 1, slots := 6, locals := 134 }) (va_Pc [.ref h0, .int i, .ref oo] (fun U => PW D [(cI, .int), (cJ, .long)] [(h0, .inr (0, [.ref kw, .int kb, .int kr, .ref sc, .ref so, .ref tp, .int tl, .ref ct, .ref sr])), (oo, .inl (cJ, 1, .inr (.inl g)))] sz U ∧ thw "java/lang/IndexOutOfBoundsException" 115 "no such word of the seal" sa (va_A [(h0, .inr (0, [.ref kw, .int kb, .int kr, .ref sc, .ref so, .ref tp, .int tl, .ref ct, .ref sr])), (oo, .inl (cJ, 1, .inr (.inl g)))] sz) U U.heap)) (va_Qi (fun r9 (u : Nat → Nat → Int32) => r9 = nI 1) (fun u => BW D [(cI, .int), (cJ, .long)] (va_A [(h0, .inr (0, [.ref kw, .int kb, .int kr, .ref sc, .ref so, .ref tp, .int tl, .ref ct, .ref sr])), (oo, .inl (cJ, 1, .inr (.inl g)))] sz) [(h0, .inr (0, [.ref kw, .int kb, .int kr, .ref sc, .ref so, .ref tp, .int tl, .ref ct, .ref sr])), (oo, .inl (cJ, 1, .inr (.inl g)))]) (va_A [(h0, .inr (0, [.ref kw, .int kb, .int kr, .ref sc, .ref so, .ref tp, .int tl, .ref ct, .ref sr])), (oo, .inl (cJ, 1, .inr (.inl g)))] sz)) 1 6 (va_A [(h0, .inr (0, [.ref kw, .int kb, .int kr, .ref sc, .ref so, .ref tp, .int tl, .ref ct, .ref sr])), (oo, .inl (cJ, 1, .inr (.inl g)))] sz) := by
  refine va_MetW (cc := cL_seal) (maxL := 4) (ret := (some .int)) (hh := [(0, 9, 12, 13), (0, 9, 15, 25)]) (by decide) rfl ?_
  intro p e s m args below meth c s₁ B hml hv
  obtain ⟨rfl, ⟨hsz, hP, hK2, hD0⟩, hth⟩ := hv
  have hK := hK2.sub (tys' := [(cI, .int)]) [0] rfl
  have hx := B.exec
  have hb := B.bytes
  have hr := B.returns
  have hts := atoms_spec (ws := wsL_seal) B.pre
  have hown : s.vm.findClass RL = some m.cls := findClass_of_methodNamed B.named
  have hlocks := B.notSynchronized
  subst hsz
  have hD := hD0.self (sz := s.heap.size)
  generalize hAe : va_A [(h0, .inr (0, [.ref kw, .int kb, .int kr, .ref sc, .ref so, .ref tp, .int tl, .ref ct, .ref sr])), (oo, .inl (cJ, 1, .inr (.inl g)))] s.heap.size = A at hth hD ⊢
  have hA : ∀ q : Nat, s.heap.size ≤ q → A q := fun q h => by rw [← hAe]; exact Or.inr h
  have hS : va_S A s.heap s.heap [] := va_S.rf
  have hl := lv_entry ([.ref h0, .int i, .ref oo]) (n := 4) (Nat.le_of_ble_eq_true rfl)
  rw [lg_entry_eq]
  generalize (lg_sl ([.ref h0, .int i, .ref oo]) ++ List.replicate (4 - (lg_sl ([.ref h0, .int i, .ref oo])).length) Slot.unset).toArray = ls at hl ⊢
  have hl : lv_has ls 4 [(0, .ref h0), (1, .int i), (2, .ref oo)] := hl
  refine lv_aload_n hx hb dL_seal_0 rfl (lv_at hl 2 rfl) ?_
  refine lv_iconst (v := nI 0) hx hb dL_seal_1 (by decide) ?_
  refine lv_aload_n hx hb dL_seal_2 rfl (lv_at hl 0 rfl) ?_
  refine lv_iload_n hx hb dL_seal_3 rfl (lv_at hl 1 rfl) ?_
  refine wk_Vxi (b := h0) (As := [.int i]) (rest := [.int (nI 0), .ref oo]) (wc := [(h0, .inr (0, [.ref kw, .int kb, .int kr, .ref sc, .ref so, .ref tp, .int tl, .ref ct, .ref sr]))]) (wr := [(oo, .inl (cJ, 1, .inr (.inl g)))]) (ci := 0) (q0 := 0) ⟨hx, hb, hml, hown, hts⟩ (c_X0_seal0 l hlt D cI sa h0 kw sc so tp ct sr kb kr tl i _ hbad) (cwV 1 hts gL_seal_X0_seal rfl rfl rfl (by decide +kernel) ⟨Nat.le_of_ble_eq_true rfl, Nat.le_of_ble_eq_true rfl⟩) (fun V g mk a h => thw.call g mk a h) (fun hF V hU hW => hth.give hS hF hU hW) hK hP hD hS hA rfl rfl [0] [1] rfl (by decide) rfl (by decide) (by decide) [1, 0] rfl (by decide) rfl hl.1 rfl (Nat.le_of_ble_eq_true rfl) dL_seal_4 ⟨Nat.le_of_ble_eq_true rfl, Nat.le_of_ble_eq_true rfl⟩ (fun ce q9 H locs hP hD hS hce hcv hcl => ?_)
  have hsp : c.exceptionTable.toList = tableOf [(0, 9, 12, 13), (0, 9, 15, 25)] := vx_table (x := yL_seal) B (hts _ List.mem_cons_self)
  refine vx_catch (own := RL) (name := "java/lang/IndexOutOfBoundsException") hown [] ⟨0, 9, 12, 13⟩ [⟨0, 9, 15, 25⟩] hsp (fun z hz => absurd hz List.not_mem_nil) (by decide) (by decide) (hts (.classLink RL 13 "java/lang/IndexOutOfBoundsException") (by decide +kernel)) (va_Nw.use rfl hth.2.2.2.1) hce hcv hcl ?_
  refine lv_astore_n (lv' := [(3, .ref q9), (0, .ref h0), (1, .int i), (2, .ref oo)]) hx hb dL_seal_12 rfl hl (by decide) rfl (fun ls hl => ?_)
  refine lv_iconst (v := nI 1) hx hb dL_seal_13 (by decide) ?_
  exact W.iret (v := nI 1) hx hb hr (fun t ht hW => ⟨⟨_, (fun _ _ => 0), rfl, rfl, by rw [ht]; exact hP, va_K.moved hW.alike hK2, hD⟩, hS.F ht⟩) hS.2.2 dL_seal_14
set_option maxHeartbeats 4000000 in
set_option maxRecDepth 100000 in
theorem c_L_seal2a (l : Launch) (hlt : l.stackTraces = false) (D : va_G) (cI cJ : ClassId) (sa : Nat) (h0 kw sc so tp ct sr oo : Nat) (kb tl : Int32) (k : Nat) (g : Nat → Int64) (sz : Nat) (hk : k < 4) : Met l yL_seal wsL_seal ({ frames := 8, cells := 1, slots := 6, locals := 134 }) (va_Pc [.ref h0, .int (nI k), .ref oo] (fun U => PW D [(cI, .int), (cJ, .long)] [(h0, .inr (0, [.ref kw, .int kb, .int (nI 0), .ref sc, .ref so, .ref tp, .int tl, .ref ct, .ref sr])), (oo, .inl (cJ, 1, .inr (.inl g)))] sz U ∧ (thw "java/lang/IllegalStateException" 125 "the key is not ready" sa (va_A [(h0, .inr (0, [.ref kw, .int kb, .int (nI 0), .ref sc, .ref so, .ref tp, .int tl, .ref ct, .ref sr])), (oo, .inl (cJ, 1, .inr (.inl g)))] sz) U U.heap ∧ va_Nc "java/lang/IllegalStateException" "java/lang/IndexOutOfBoundsException" U))) (va_Qi (fun r9 (u : Nat → Nat → Int32) => r9 = nI 2) (fun u => BW D [(cI, .int), (cJ, .long)] (va_A [(h0, .inr (0, [.ref kw, .int kb, .int (nI 0), .ref sc, .ref so, .ref tp, .int tl, .ref ct, .ref sr])), (oo, .inl (cJ, 1, .inr (.inl g)))] sz) [(h0, .inr (0, [.ref kw, .int kb, .int (nI 0), .ref sc, .ref so, .ref tp, .int tl, .ref ct, .ref sr])), (oo, .inl (cJ, 1, .inr (.inl g)))]) (va_A [(h0, .inr (0, [.ref kw, .int kb, .int (nI 0), .ref sc, .ref so, .ref tp, .int tl, .ref ct, .ref sr])), (oo, .inl (cJ, 1, .inr (.inl g)))] sz)) 1 6 (va_A [(h0, .inr (0, [.ref kw, .int kb, .int (nI 0), .ref sc, .ref so, .ref tp, .int tl, .ref ct, .ref sr])), (oo, .inl (cJ, 1, .inr (.inl g)))] sz) := by
  refine va_MetW (cc := cL_seal) (maxL := 4) (ret := (some .int)) (hh := [(0, 9, 12, 13), (0, 9, 15, 25)]) (by decide) rfl ?_
  intro p e s m args below meth c s₁ B hml hv
  obtain ⟨rfl, ⟨hsz, hP, hK2, hD0⟩, ⟨hth, hnc⟩⟩ := hv
  have hK := hK2.sub (tys' := [(cI, .int)]) [0] rfl
  have hx := B.exec
  have hb := B.bytes
  have hr := B.returns
  have hts := atoms_spec (ws := wsL_seal) B.pre
  have hown : s.vm.findClass RL = some m.cls := findClass_of_methodNamed B.named
  have hlocks := B.notSynchronized
  subst hsz
  have hD := hD0.self (sz := s.heap.size)
  generalize hAe : va_A [(h0, .inr (0, [.ref kw, .int kb, .int (nI 0), .ref sc, .ref so, .ref tp, .int tl, .ref ct, .ref sr])), (oo, .inl (cJ, 1, .inr (.inl g)))] s.heap.size = A at hth hD ⊢
  have hA : ∀ q : Nat, s.heap.size ≤ q → A q := fun q h => by rw [← hAe]; exact Or.inr h
  have hS : va_S A s.heap s.heap [] := va_S.rf
  have hl := lv_entry ([.ref h0, .int (nI k), .ref oo]) (n := 4) (Nat.le_of_ble_eq_true rfl)
  rw [lg_entry_eq]
  generalize (lg_sl ([.ref h0, .int (nI k), .ref oo]) ++ List.replicate (4 - (lg_sl ([.ref h0, .int (nI k), .ref oo])).length) Slot.unset).toArray = ls at hl ⊢
  have hl : lv_has ls 4 [(0, .ref h0), (1, .int (nI k)), (2, .ref oo)] := hl
  refine lv_aload_n hx hb dL_seal_0 rfl (lv_at hl 2 rfl) ?_
  refine lv_iconst (v := nI 0) hx hb dL_seal_1 (by decide) ?_
  refine lv_aload_n hx hb dL_seal_2 rfl (lv_at hl 0 rfl) ?_
  refine lv_iload_n hx hb dL_seal_3 rfl (lv_at hl 1 rfl) ?_
  refine wk_Vxi (b := h0) (As := [.int (nI k)]) (rest := [.int (nI 0), .ref oo]) (wc := [(h0, .inr (0, [.ref kw, .int kb, .int (nI 0), .ref sc, .ref so, .ref tp, .int tl, .ref ct, .ref sr]))]) (wr := [(oo, .inl (cJ, 1, .inr (.inl g)))]) (ci := 0) (q0 := 0) ⟨hx, hb, hml, hown, hts⟩ (c_X0_seal2a l hlt D cI sa h0 kw sc so tp ct sr kb tl k _ hk) (cwV 1 hts gL_seal_X0_seal rfl rfl rfl (by decide +kernel) ⟨Nat.le_of_ble_eq_true rfl, Nat.le_of_ble_eq_true rfl⟩) (fun V g mk a h => thw.call g mk a h) (fun hF V hU hW => hth.give hS hF hU hW) hK hP hD hS hA rfl rfl [0] [1] rfl (by decide) rfl (by decide) (by decide) [1, 0] rfl (by decide) rfl hl.1 rfl (Nat.le_of_ble_eq_true rfl) dL_seal_4 ⟨Nat.le_of_ble_eq_true rfl, Nat.le_of_ble_eq_true rfl⟩ (fun ce q9 H locs hP hD hS hce hcv hcl => ?_)
  have hsp : c.exceptionTable.toList = tableOf [(0, 9, 12, 13), (0, 9, 15, 25)] := vx_table (x := yL_seal) B (hts _ List.mem_cons_self)
  refine vx_catch (own := RL) (name := "java/lang/IllegalStateException") hown [⟨0, 9, 12, 13⟩] ⟨0, 9, 15, 25⟩ [] hsp (fun z hz => by rw [List.mem_singleton.mp hz]; exact Or.inr ⟨by decide, "java/lang/IndexOutOfBoundsException", hts (.classLink RL 13 "java/lang/IndexOutOfBoundsException") (by decide +kernel), hnc⟩) (by decide) (by decide) (hts (.classLink RL 25 "java/lang/IllegalStateException") (by decide +kernel)) (va_Nw.use rfl hth.2.2.2.1) hce hcv hcl ?_
  refine lv_astore_n (lv' := [(3, .ref q9), (0, .ref h0), (1, .int (nI k)), (2, .ref oo)]) hx hb dL_seal_15 rfl hl (by decide) rfl (fun ls hl => ?_)
  refine lv_iconst (v := nI 2) hx hb dL_seal_16 (by decide) ?_
  exact W.iret (v := nI 2) hx hb hr (fun t ht hW => ⟨⟨_, (fun _ _ => 0), rfl, rfl, by rw [ht]; exact hP, va_K.moved hW.alike hK2, hD⟩, hS.F ht⟩) hS.2.2 dL_seal_17
set_option maxHeartbeats 4000000 in
set_option maxRecDepth 100000 in
theorem c_L_seal2b (l : Launch) (hlt : l.stackTraces = false) (D : va_G) (cI cJ : ClassId) (sa : Nat) (h0 kw sc so tp ct sr oo : Nat) (kb : Int32) (sz0 k : Nat) (g : Nat → Int64) (sz : Nat) (hz : sz0 ≤ 256) (h4 : sz0 % 4 ≠ 0) (hk : k < 4) : Met l yL_seal wsL_seal ({ frames := 8, cells := 1, slots := 6, locals := 134 }) (va_Pc [.ref h0, .int (nI k), .ref oo] (fun U => PW D [(cI, .int), (cJ, .long)] [(h0, .inr (0, [.ref kw, .int kb, .int (nI 1), .ref sc, .ref so, .ref tp, .int (nI sz0), .ref ct, .ref sr])), (oo, .inl (cJ, 1, .inr (.inl g)))] sz U ∧ (thw "java/lang/IllegalStateException" 127 "the tape ends within a block" sa (va_A [(h0, .inr (0, [.ref kw, .int kb, .int (nI 1), .ref sc, .ref so, .ref tp, .int (nI sz0), .ref ct, .ref sr])), (oo, .inl (cJ, 1, .inr (.inl g)))] sz) U U.heap ∧ va_Nc "java/lang/IllegalStateException" "java/lang/IndexOutOfBoundsException" U))) (va_Qi (fun r9 (u : Nat → Nat → Int32) => r9 = nI 2) (fun u => BW D [(cI, .int), (cJ, .long)] (va_A [(h0, .inr (0, [.ref kw, .int kb, .int (nI 1), .ref sc, .ref so, .ref tp, .int (nI sz0), .ref ct, .ref sr])), (oo, .inl (cJ, 1, .inr (.inl g)))] sz) [(h0, .inr (0, [.ref kw, .int kb, .int (nI 1), .ref sc, .ref so, .ref tp, .int (nI sz0), .ref ct, .ref sr])), (oo, .inl (cJ, 1, .inr (.inl g)))]) (va_A [(h0, .inr (0, [.ref kw, .int kb, .int (nI 1), .ref sc, .ref so, .ref tp, .int (nI sz0), .ref ct, .ref sr])), (oo, .inl (cJ, 1, .inr (.inl g)))] sz)) 1 6 (va_A [(h0, .inr (0, [.ref kw, .int kb, .int (nI 1), .ref sc, .ref so, .ref tp, .int (nI sz0), .ref ct, .ref sr])), (oo, .inl (cJ, 1, .inr (.inl g)))] sz) := by
  refine va_MetW (cc := cL_seal) (maxL := 4) (ret := (some .int)) (hh := [(0, 9, 12, 13), (0, 9, 15, 25)]) (by decide) rfl ?_
  intro p e s m args below meth c s₁ B hml hv
  obtain ⟨rfl, ⟨hsz, hP, hK2, hD0⟩, ⟨hth, hnc⟩⟩ := hv
  have hK := hK2.sub (tys' := [(cI, .int)]) [0] rfl
  have hx := B.exec
  have hb := B.bytes
  have hr := B.returns
  have hts := atoms_spec (ws := wsL_seal) B.pre
  have hown : s.vm.findClass RL = some m.cls := findClass_of_methodNamed B.named
  have hlocks := B.notSynchronized
  subst hsz
  have hD := hD0.self (sz := s.heap.size)
  generalize hAe : va_A [(h0, .inr (0, [.ref kw, .int kb, .int (nI 1), .ref sc, .ref so, .ref tp, .int (nI sz0), .ref ct, .ref sr])), (oo, .inl (cJ, 1, .inr (.inl g)))] s.heap.size = A at hth hD ⊢
  have hA : ∀ q : Nat, s.heap.size ≤ q → A q := fun q h => by rw [← hAe]; exact Or.inr h
  have hS : va_S A s.heap s.heap [] := va_S.rf
  have hl := lv_entry ([.ref h0, .int (nI k), .ref oo]) (n := 4) (Nat.le_of_ble_eq_true rfl)
  rw [lg_entry_eq]
  generalize (lg_sl ([.ref h0, .int (nI k), .ref oo]) ++ List.replicate (4 - (lg_sl ([.ref h0, .int (nI k), .ref oo])).length) Slot.unset).toArray = ls at hl ⊢
  have hl : lv_has ls 4 [(0, .ref h0), (1, .int (nI k)), (2, .ref oo)] := hl
  refine lv_aload_n hx hb dL_seal_0 rfl (lv_at hl 2 rfl) ?_
  refine lv_iconst (v := nI 0) hx hb dL_seal_1 (by decide) ?_
  refine lv_aload_n hx hb dL_seal_2 rfl (lv_at hl 0 rfl) ?_
  refine lv_iload_n hx hb dL_seal_3 rfl (lv_at hl 1 rfl) ?_
  refine wk_Vxi (b := h0) (As := [.int (nI k)]) (rest := [.int (nI 0), .ref oo]) (wc := [(h0, .inr (0, [.ref kw, .int kb, .int (nI 1), .ref sc, .ref so, .ref tp, .int (nI sz0), .ref ct, .ref sr]))]) (wr := [(oo, .inl (cJ, 1, .inr (.inl g)))]) (ci := 0) (q0 := 0) ⟨hx, hb, hml, hown, hts⟩ (c_X0_seal2b l hlt D cI sa h0 kw sc so tp ct sr kb sz0 k _ hz h4 hk) (cwV 1 hts gL_seal_X0_seal rfl rfl rfl (by decide +kernel) ⟨Nat.le_of_ble_eq_true rfl, Nat.le_of_ble_eq_true rfl⟩) (fun V g mk a h => thw.call g mk a h) (fun hF V hU hW => hth.give hS hF hU hW) hK hP hD hS hA rfl rfl [0] [1] rfl (by decide) rfl (by decide) (by decide) [1, 0] rfl (by decide) rfl hl.1 rfl (Nat.le_of_ble_eq_true rfl) dL_seal_4 ⟨Nat.le_of_ble_eq_true rfl, Nat.le_of_ble_eq_true rfl⟩ (fun ce q9 H locs hP hD hS hce hcv hcl => ?_)
  have hsp : c.exceptionTable.toList = tableOf [(0, 9, 12, 13), (0, 9, 15, 25)] := vx_table (x := yL_seal) B (hts _ List.mem_cons_self)
  refine vx_catch (own := RL) (name := "java/lang/IllegalStateException") hown [⟨0, 9, 12, 13⟩] ⟨0, 9, 15, 25⟩ [] hsp (fun z hz => by rw [List.mem_singleton.mp hz]; exact Or.inr ⟨by decide, "java/lang/IndexOutOfBoundsException", hts (.classLink RL 13 "java/lang/IndexOutOfBoundsException") (by decide +kernel), hnc⟩) (by decide) (by decide) (hts (.classLink RL 25 "java/lang/IllegalStateException") (by decide +kernel)) (va_Nw.use rfl hth.2.2.2.1) hce hcv hcl ?_
  refine lv_astore_n (lv' := [(3, .ref q9), (0, .ref h0), (1, .int (nI k)), (2, .ref oo)]) hx hb dL_seal_15 rfl hl (by decide) rfl (fun ls hl => ?_)
  refine lv_iconst (v := nI 2) hx hb dL_seal_16 (by decide) ?_
  exact W.iret (v := nI 2) hx hb hr (fun t ht hW => ⟨⟨_, (fun _ _ => 0), rfl, rfl, by rw [ht]; exact hP, va_K.moved hW.alike hK2, hD⟩, hS.F ht⟩) hS.2.2 dL_seal_17
