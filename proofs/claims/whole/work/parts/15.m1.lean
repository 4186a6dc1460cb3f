/-! calls whose end is known but for some rows, and calls that change cells and answer an int -/
section
variable {p : Program} {l : Launch} {e : Env} {R : Room} {s : State} {m : MethodId} {args : Array Value} {below : List Frame} {meth : Method} {c : Code} {H : Heap} {locs : List Loc} {cells slots : Nat} {Q : State → Prop} {cc : ByteArray} {pc : Nat} {ls : Array Slot} {rest : List Value}
variable {y : MethodName} {bytes : ByteArray} {maxL nL n index : Nat} {ret : Option FieldType} {wy : List Cond} {rm : Room} {Ts : List Cond} {own C : String} {As st0 : List Value} {D : va_G} {tys : List (ClassId × FieldType)} {ws wc wr : va_W} {A : Nat → Prop} {X : State → Prop} {b : Nat} {U : Type} {w1 w2 : U → va_W}
theorem wk_VE {post : U → Prop} {ci q0 : Nat} {q9 : vw_C} {fs : List Value} (S : CallFix p m c cc nL s args Ts own) (hM : Met l y wy rm (va_Pc (.ref b :: As) (fun V => PW D tys wc H.size V ∧ X V)) (va_Qv post (fun u => BW D tys (va_A wc H.size) (w1 u)) (va_A wc H.size)) 0 0 (va_A wc H.size)) (cw : CallW R s args own q9.1 index y bytes maxL ret wy rm 0 0 n)
    (hXb : ∀ (V : State) (g : JFrame) (mk : MethodId) (a : Array Value), X V → X (V.calling g mk a)) (hX : (∀ q, va_A wc H.size q → A q) → ∀ V : State, V.heap = H → s.WarmedH V.vm → X V) (hK : va_K D vwCl tys s) (hP : va_P D vwCl ws H) (hD : va_D A ws) (hS : va_S A s.heap H locs) (hA : ∀ q : Nat, s.heap.size ≤ q → A q) (hc : vwCl[ci]? = some q9) (he : ws[q0]? = some (b, .inr (ci, fs)))
    (isC isR : List Nat) (hC : isC.map (fun i => ws[i]?) = wc.map some) (hnC : va_nd isC = true) (hR : isR.map (fun i => ws[i]?) = wr.map some) (hnR : va_nd isR = true) (hdis : ∀ i ∈ isR, i ∉ isC) (isF : List Nat) (hF : ∀ u, isF.map (fun i => (wr ++ w1 u)[i]?) = (w2 u).map some) (hnF : va_nd isF = true)
    (hn : As.length = n) (hsize : ls.size = nL) (hst : st0 = As.reverse ++ .ref b :: rest) (hW : (rest.map fun v => v.category).sum ≤ 8) (hdg : decode cc pc = .ok (.invokevirtual index, 3)) (hf : cells ≤ R.cells ∧ slots ≤ R.slots)
    (kk : ∀ (u : U) (H1 : Heap) (locs1 : List Loc), post u → va_P D vwCl (w2 u) H1 → va_D A (w2 u) → va_S A s.heap H1 locs1 → W p l e R s m args below meth c H1 locs1 cells slots Q (F0 m (pc + 3) ls rest)) : W p l e R s m args below meth c H locs cells slots Q (F0 m pc ls st0) := by
  have hPc := hP.sub (ws' := wc) isC (fm_of_map _ _ _ hC)
  have hDc := hD.sub (ws' := wc) isC hnC hC
  have hFc := va_free (wc := wc) hD hS hA isC hC
  refine va_callv (va_runV (As := As) (rest := rest) S hM cw ⟨fun a V g mk h => ⟨h.1, PW.call g mk a h.2.1, hXb V g mk a h.2.2⟩, va_recv hK hP hc he, fun V hU hW9 => ⟨rfl, ⟨by rw [hU], by rw [hU]; exact hPc, va_K.moved hW9.alike hK, hDc.weaken (fun _ _ _ _ => trivial)⟩, hX hFc V hU hW9⟩⟩ rfl hn hsize hst (lv_room hW) hdg hf) hS (fun q _ h => hFc q h) hFc (fun u t H1 locs1 ht hvm hw hB hz1 hk1 hS1 => ?_)
  obtain ⟨hP1, hK1, hD1⟩ := hB
  rw [ht] at hP1
  obtain ⟨hP2, hD2⟩ := va_join (wr := wr) (w1 := w1 u) hP hD isC isR hC hR hnR hdis hk1 hFc hP1 hD1
  exact kk u H1 locs1 hw (hP2.sub isF (fm_of_map _ _ _ (hF u))) (hD2.sub isF hnF (hF u)) hS1
theorem wk_VI {post : Int32 → U → Prop} {ci q0 : Nat} {q9 : vw_C} {fs : List Value} (S : CallFix p m c cc nL s args Ts own) (hM : Met l y wy rm (va_Pc (.ref b :: As) (fun V => PW D tys wc H.size V ∧ X V)) (va_Qi post (fun u => BW D tys (va_A wc H.size) (w1 u)) (va_A wc H.size)) 0 0 (va_A wc H.size)) (cw : CallW R s args own q9.1 index y bytes maxL ret wy rm 0 0 n)
    (hXb : ∀ (V : State) (g : JFrame) (mk : MethodId) (a : Array Value), X V → X (V.calling g mk a)) (hX : (∀ q, va_A wc H.size q → A q) → ∀ V : State, V.heap = H → s.WarmedH V.vm → X V) (hK : va_K D vwCl tys s) (hP : va_P D vwCl ws H) (hD : va_D A ws) (hS : va_S A s.heap H locs) (hA : ∀ q : Nat, s.heap.size ≤ q → A q) (hc : vwCl[ci]? = some q9) (he : ws[q0]? = some (b, .inr (ci, fs)))
    (isC isR : List Nat) (hC : isC.map (fun i => ws[i]?) = wc.map some) (hnC : va_nd isC = true) (hR : isR.map (fun i => ws[i]?) = wr.map some) (hnR : va_nd isR = true) (hdis : ∀ i ∈ isR, i ∉ isC) (isF : List Nat) (hF : ∀ u, isF.map (fun i => (wr ++ w1 u)[i]?) = (w2 u).map some) (hnF : va_nd isF = true)
    (hn : As.length = n) (hsize : ls.size = nL) (hst : st0 = As.reverse ++ .ref b :: rest) (hW : (rest.map fun v => v.category).sum ≤ 8) (hdg : decode cc pc = .ok (.invokevirtual index, 3)) (hf : cells ≤ R.cells ∧ slots ≤ R.slots)
    (kk : ∀ (r : Int32) (u : U) (H1 : Heap) (locs1 : List Loc), post r u → va_P D vwCl (w2 u) H1 → va_D A (w2 u) → va_S A s.heap H1 locs1 → W p l e R s m args below meth c H1 locs1 cells slots Q (F0 m (pc + 3) ls (.int r :: rest))) : W p l e R s m args below meth c H locs cells slots Q (F0 m pc ls st0) := by
  have hPc := hP.sub (ws' := wc) isC (fm_of_map _ _ _ hC)
  have hDc := hD.sub (ws' := wc) isC hnC hC
  have hFc := va_free (wc := wc) hD hS hA isC hC
  refine va_calli (va_runV (As := As) (rest := rest) S hM cw ⟨fun a V g mk h => ⟨h.1, PW.call g mk a h.2.1, hXb V g mk a h.2.2⟩, va_recv hK hP hc he, fun V hU hW9 => ⟨rfl, ⟨by rw [hU], by rw [hU]; exact hPc, va_K.moved hW9.alike hK, hDc.weaken (fun _ _ _ _ => trivial)⟩, hX hFc V hU hW9⟩⟩ rfl hn hsize hst (lv_room hW) hdg hf) hS (fun q _ h => hFc q h) hFc (fun r u t H1 locs1 ht hvm hw hB hz1 hk1 hS1 => ?_)
  obtain ⟨hP1, hK1, hD1⟩ := hB
  rw [ht] at hP1
  obtain ⟨hP2, hD2⟩ := va_join (wr := wr) (w1 := w1 u) hP hD isC isR hC hR hnR hdis hk1 hFc hP1 hD1
  exact kk r u H1 locs1 hw (hP2.sub isF (fm_of_map _ _ _ (hF u))) (hD2.sub isF hnF (hF u)) hS1
end
/-! pure: rows of four copied, xored; a block's words by their places -/
def cpI (b f : Nat → Int32) (off : Nat) : Nat → Nat → Int32
  | 0 => b
  | j + 1 => upd (cpI b f off j) j (f (off + j))
def cpO (f b : Nat → Int32) (off : Nat) : Nat → Nat → Int32
  | 0 => f
  | j + 1 => upd (cpO f b off j) (off + j) (b j)
def cpZ (b f : Nat → Int32) : Nat → Nat → Int32
  | 0 => b
  | j + 1 => upd (cpZ b f j) j (f j)
def cp0 (b : Nat → Int32) : Nat → Nat → Int32
  | 0 => b
  | j + 1 => upd (cp0 b j) j (nI 0)
theorem cpI_4 (b f : Nat → Int32) (off : Nat) : cpI b f off 4 = st4 b 0 (ld4 f off) := rfl
theorem cpO_4 (f b : Nat → Int32) (off : Nat) : cpO f b off 4 = st4 f off (ld4 b 0) := rfl
theorem cpZ_4 (b f : Nat → Int32) : cpZ b f 4 = st4 b 0 (ld4 f 0) := rfl
theorem cp0_4 (b : Nat → Int32) : cp0 b 4 = st4 b 0 (nI 0, nI 0, nI 0, nI 0) := rfl
def mX (b Rn : Nat → Int32) (r : Nat) : Nat → Nat → Int32
  | 0 => b
  | j + 1 => upd (mX b Rn r j) j (mX b Rn r j j ^^^ Rn ((4 * r) + j))
/-- the reference's round keys, where the class has its own -/
def shf (Rn : Nat → Int32) : Nat → Int32 := fun i => Rn (i - 8)
theorem ld4_shf (Rn : Nat → Int32) (n : Nat) : ld4 (shf Rn) (8 + n) = ld4 Rn n := by
  unfold ld4 shf
  rw [show 8 + n - 8 = n from by omega, show 8 + n + 1 - 8 = n + 1 from by omega, show 8 + n + 2 - 8 = n + 2 from by omega, show 8 + n + 3 - 8 = n + 3 from by omega]
theorem mX_4 (b Rn : Nat → Int32) (r : Nat) : mX b Rn r 4 = st4 b 0 (x4 (ld4 b 0) (ld4 (shf Rn) (8 + 4 * r))) := by
  rw [ld4_shf]
  funext j
  simp [mX, st4, upd, x4, ld4]
theorem up_0 (b : Nat → Int32) (x0 x1 x2 x3 v : Int32) : upd (st4 b 0 (x0, x1, x2, x3)) 0 v = st4 b 0 (v, x1, x2, x3) := by
  funext j
  by_cases h3 : j = 3 <;> by_cases h2 : j = 2 <;> by_cases h1 : j = 1 <;> by_cases h0 : j = 0 <;> simp [st4, upd, *]
theorem up_1 (b : Nat → Int32) (x0 x1 x2 x3 v : Int32) : upd (st4 b 0 (x0, x1, x2, x3)) 1 v = st4 b 0 (x0, v, x2, x3) := by
  funext j
  by_cases h3 : j = 3 <;> by_cases h2 : j = 2 <;> by_cases h1 : j = 1 <;> by_cases h0 : j = 0 <;> simp [st4, upd, *]
theorem up_2 (b : Nat → Int32) (x0 x1 x2 x3 v : Int32) : upd (st4 b 0 (x0, x1, x2, x3)) 2 v = st4 b 0 (x0, x1, v, x3) := by
  funext j
  by_cases h3 : j = 3 <;> by_cases h2 : j = 2 <;> by_cases h1 : j = 1 <;> by_cases h0 : j = 0 <;> simp [st4, upd, *]
theorem up_3 (b : Nat → Int32) (x0 x1 x2 x3 v : Int32) : upd (st4 b 0 (x0, x1, x2, x3)) 3 v = st4 b 0 (x0, x1, x2, v) := by
  funext j
  by_cases h3 : j = 3 <;> by_cases h2 : j = 2 <;> by_cases h1 : j = 1 <;> by_cases h0 : j = 0 <;> simp [st4, upd, *]
/-- one turn of the inner loop of 'through': the four words get their bits of one place -/
def inF (d : Nat → Int32) (to : Int32) (pl : Nat) : Nat → Nat → Int32
  | 0 => d
  | k + 1 => upd (inF d to pl k) k (inF d to pl k k ||| (((to >>> (nI k &&& 31)) &&& nI 1) <<< (nI pl &&& 31)))
theorem inF_4 (d : Nat → Int32) (x0 x1 x2 x3 to : Int32) (pl : Nat) : inF (st4 d 0 (x0, x1, x2, x3)) to pl 4 = st4 d 0 (x0 ||| (((to >>> (nI 0 &&& 31)) &&& nI 1) <<< (nI pl &&& 31)), x1 ||| (((to >>> (nI 1 &&& 31)) &&& nI 1) <<< (nI pl &&& 31)), x2 ||| (((to >>> (nI 2 &&& 31)) &&& nI 1) <<< (nI pl &&& 31)), x3 ||| (((to >>> (nI 3 &&& 31)) &&& nI 1) <<< (nI pl &&& 31))) := by
  funext j
  by_cases h3 : j = 3 <;> by_cases h2 : j = 2 <;> by_cases h1 : j = 1 <;> by_cases h0 : j = 0 <;> simp [inF, st4, upd, *]
def mQ (bk wh : Nat) (b : Nat → Int32) (pl : Nat) : Qd := (mAcc bk wh b 0 pl, mAcc bk wh b 1 pl, mAcc bk wh b 2 pl, mAcc bk wh b 3 pl)
theorem mQ_step (bk wh : Nat) (b d : Nat → Int32) (pl : Nat) : inF (st4 d 0 (mQ bk wh b pl)) (boxV bk wh (nibR b pl 4)) pl 4 = st4 d 0 (mQ bk wh b (pl + 1)) := inF_4 d _ _ _ _ _ pl
theorem TB_c (wh v : Nat) : TB (wh * 16 + v) = TB (16 * wh + v) := by rw [Nat.mul_comm]
set_option maxHeartbeats 4000000 in
set_option maxRecDepth 100000 in
theorem c_X1_isIn1 (l : Launch) (v lo hi : Int32) (h1 : ¬ v < lo) (h2 : ¬ hi < v) : Met l yX1_isIn wsX1_isIn ({ frames := 0, cells := 0, slots := 0, locals := 0 }) (va_Pc [.int v, .int lo, .int hi] (fun _ => True)) (vp_Si (fun r9 => r9 = nI 1)) 0 0 (fun _ => False) := by
  refine Met.ofW (cc := cX1_isIn) (maxL := 3) (ret := (some .boolean)) (by decide) rfl ?_
  intro p e s m args below meth c s₁ B hml hv
  obtain ⟨rfl, -⟩ := hv
  have hx := B.exec
  have hb := B.bytes
  have hr := B.returns
  have hts := atoms_spec (ws := wsX1_isIn) B.pre
  have hown : s.vm.findClass RX1 = some m.cls := findClass_of_methodNamed B.named
  have hlocks := B.notSynchronized
  have hl := lv_entry ([.int v, .int lo, .int hi]) (n := 3) (Nat.le_of_ble_eq_true rfl)
  rw [lg_entry_eq]
  generalize (lg_sl ([.int v, .int lo, .int hi]) ++ List.replicate (3 - (lg_sl ([.int v, .int lo, .int hi])).length) Slot.unset).toArray = ls at hl ⊢
  have hl : lv_has ls 3 [(0, .int v), (1, .int lo), (2, .int hi)] := hl
  refine lv_iload_n hx hb dX1_isIn_0 rfl (lv_at hl 0 rfl) ?_
  refine lv_iload_n hx hb dX1_isIn_1 rfl (lv_at hl 1 rfl) ?_
  refine lv_icmp_lt (tgt := 14) hx hb dX1_isIn_2 (by decide) (fun c2 => absurd c2 (h1)) (fun c2 => ?_)
  refine lv_iload_n hx hb dX1_isIn_5 rfl (lv_at hl 0 rfl) ?_
  refine lv_iload_n hx hb dX1_isIn_6 rfl (lv_at hl 2 rfl) ?_
  refine lv_icmp_gt (tgt := 14) hx hb dX1_isIn_7 (by decide) (fun c7 => absurd c7 (h2)) (fun c7 => ?_)
  refine lv_iconst (v := nI 1) hx hb dX1_isIn_10 (by decide) ?_
  refine lv_goto (tgt := 15) hx hb dX1_isIn_11 (by decide) ?_
  exact W.zret (v := nI 1) (ty := .boolean) hx hb hr rfl (fun t ht hW => ⟨_, rfl, rfl, ht⟩) (fun q h => absurd h List.not_mem_nil) dX1_isIn_15
set_option maxHeartbeats 4000000 in
set_option maxRecDepth 100000 in
theorem c_X1_isIn0a (l : Launch) (v lo hi : Int32) (h1 : v < lo) : Met l yX1_isIn wsX1_isIn ({ frames := 0, cells := 0, slots := 0, locals := 0 }) (va_Pc [.int v, .int lo, .int hi] (fun _ => True)) (vp_Si (fun r9 => r9 = nI 0)) 0 0 (fun _ => False) := by
  refine Met.ofW (cc := cX1_isIn) (maxL := 3) (ret := (some .boolean)) (by decide) rfl ?_
  intro p e s m args below meth c s₁ B hml hv
  obtain ⟨rfl, -⟩ := hv
  have hx := B.exec
  have hb := B.bytes
  have hr := B.returns
  have hts := atoms_spec (ws := wsX1_isIn) B.pre
  have hown : s.vm.findClass RX1 = some m.cls := findClass_of_methodNamed B.named
  have hlocks := B.notSynchronized
  have hl := lv_entry ([.int v, .int lo, .int hi]) (n := 3) (Nat.le_of_ble_eq_true rfl)
  rw [lg_entry_eq]
  generalize (lg_sl ([.int v, .int lo, .int hi]) ++ List.replicate (3 - (lg_sl ([.int v, .int lo, .int hi])).length) Slot.unset).toArray = ls at hl ⊢
  have hl : lv_has ls 3 [(0, .int v), (1, .int lo), (2, .int hi)] := hl
  refine lv_iload_n hx hb dX1_isIn_0 rfl (lv_at hl 0 rfl) ?_
  refine lv_iload_n hx hb dX1_isIn_1 rfl (lv_at hl 1 rfl) ?_
  refine lv_icmp_lt (tgt := 14) hx hb dX1_isIn_2 (by decide) (fun c2 => ?_) (fun c2 => absurd c2 (fun h => h h1))
  refine lv_iconst (v := nI 0) hx hb dX1_isIn_14 (by decide) ?_
  exact W.zret (v := nI 0) (ty := .boolean) hx hb hr rfl (fun t ht hW => ⟨_, rfl, rfl, ht⟩) (fun q h => absurd h List.not_mem_nil) dX1_isIn_15
set_option maxHeartbeats 4000000 in
set_option maxRecDepth 100000 in
theorem c_X1_isIn0b (l : Launch) (v lo hi : Int32) (h1 : ¬ v < lo) (h2 : hi < v) : Met l yX1_isIn wsX1_isIn ({ frames := 0, cells := 0, slots := 0, locals := 0 }) (va_Pc [.int v, .int lo, .int hi] (fun _ => True)) (vp_Si (fun r9 => r9 = nI 0)) 0 0 (fun _ => False) := by
  refine Met.ofW (cc := cX1_isIn) (maxL := 3) (ret := (some .boolean)) (by decide) rfl ?_
  intro p e s m args below meth c s₁ B hml hv
  obtain ⟨rfl, -⟩ := hv
  have hx := B.exec
  have hb := B.bytes
  have hr := B.returns
  have hts := atoms_spec (ws := wsX1_isIn) B.pre
  have hown : s.vm.findClass RX1 = some m.cls := findClass_of_methodNamed B.named
  have hlocks := B.notSynchronized
  have hl := lv_entry ([.int v, .int lo, .int hi]) (n := 3) (Nat.le_of_ble_eq_true rfl)
  rw [lg_entry_eq]
  generalize (lg_sl ([.int v, .int lo, .int hi]) ++ List.replicate (3 - (lg_sl ([.int v, .int lo, .int hi])).length) Slot.unset).toArray = ls at hl ⊢
  have hl : lv_has ls 3 [(0, .int v), (1, .int lo), (2, .int hi)] := hl
  refine lv_iload_n hx hb dX1_isIn_0 rfl (lv_at hl 0 rfl) ?_
  refine lv_iload_n hx hb dX1_isIn_1 rfl (lv_at hl 1 rfl) ?_
  refine lv_icmp_lt (tgt := 14) hx hb dX1_isIn_2 (by decide) (fun c2 => absurd c2 (h1)) (fun c2 => ?_)
  refine lv_iload_n hx hb dX1_isIn_5 rfl (lv_at hl 0 rfl) ?_
  refine lv_iload_n hx hb dX1_isIn_6 rfl (lv_at hl 2 rfl) ?_
  refine lv_icmp_gt (tgt := 14) hx hb dX1_isIn_7 (by decide) (fun c7 => ?_) (fun c7 => absurd c7 (fun h => h h2))
  refine lv_iconst (v := nI 0) hx hb dX1_isIn_14 (by decide) ?_
  exact W.zret (v := nI 0) (ty := .boolean) hx hb hr rfl (fun t ht hW => ⟨_, rfl, rfl, ht⟩) (fun q h => absurd h List.not_mem_nil) dX1_isIn_15
set_option maxHeartbeats 4000000 in
set_option maxRecDepth 100000 in
theorem c_X1_left0 (l : Launch) (v : Int32) (n : Nat) (hn : n ≤ 32) : Met l yX1_left wsX1_left ({ frames := 0, cells := 0, slots := 0, locals := 0 }) (va_Pc [.int v, .int (nI n)] (fun _ => True)) (vp_Si (fun r9 => r9 = mL v n)) 0 0 (fun _ => False) := by
  refine Met.ofW (cc := cX1_left) (maxL := 4) (ret := (some .int)) (by decide) rfl ?_
  intro p e s m args below meth c s₁ B hml hv
  obtain ⟨rfl, -⟩ := hv
  have hx := B.exec
  have hb := B.bytes
  have hr := B.returns
  have hts := atoms_spec (ws := wsX1_left) B.pre
  have hown : s.vm.findClass RX1 = some m.cls := findClass_of_methodNamed B.named
  have hlocks := B.notSynchronized
  have hl := lv_entry ([.int v, .int (nI n)]) (n := 4) (Nat.le_of_ble_eq_true rfl)
  rw [lg_entry_eq]
  generalize (lg_sl ([.int v, .int (nI n)]) ++ List.replicate (4 - (lg_sl ([.int v, .int (nI n)])).length) Slot.unset).toArray = ls at hl ⊢
  have hl : lv_has ls 4 [(0, .int v), (1, .int (nI n))] := hl
  have lp : ∀ (fu : Nat) (i : Nat), i ≤ n → n + 1 ≤ i + fu → ∀ (ls : Array Slot), lv_has ls 4 [(0, .int v), (1, .int (nI n)), (2, .int (mL v i)), (3, .int (nI i))] → W p l e ((headSpec wsX1_left ({ frames := 0, cells := 0, slots := 0, locals := 0 })).room) s m ([.int v, .int (nI n)] : List Value).toArray below meth c s.heap [] 0 0 (MQ below (vp_Si (fun r9 => r9 = mL v n)) ([.int v, .int (nI n)] : List Value).toArray s 0 0 (fun _ => False)) (F0 m 4 ls []) := by
    intro fu
    induction fu with
      | zero => intro i hi hfu; exact absurd hfu (by omega)
      | succ fu ih =>
        intro i hi hfu ls hl
        refine lv_iload_n hx hb dX1_left_4 rfl (lv_at hl 3 rfl) ?_
        refine lv_iload_n hx hb dX1_left_5 rfl (lv_at hl 1 rfl) ?_
        refine wk_geN (tgt := 29) hx hb (a := i) (b := n) (by omega) (by omega) dX1_left_6 (by decide) (fun c6 => ?_) (fun c6 => ?_)
        · obtain rfl : n = i := by omega
          refine lv_iload_n hx hb dX1_left_29 rfl (lv_at hl 2 rfl) ?_
          exact W.iret (v := mL v n) hx hb hr (fun t ht hW => ⟨_, rfl, rfl, ht⟩) (fun q h => absurd h List.not_mem_nil) dX1_left_30
        · refine lv_iload_n hx hb dX1_left_9 rfl (lv_at hl 2 rfl) ?_
          refine lv_iload_n hx hb dX1_left_10 rfl (lv_at hl 2 rfl) ?_
          refine lv_iadd hx hb dX1_left_11 ?_
          refine lv_iload_n hx hb dX1_left_12 rfl (lv_at hl 2 rfl) ?_
          refine lv_if_ge (tgt := 20) hx hb dX1_left_13 (by decide) (fun c13 => ?_) (fun c13 => ?_)
          · have c13 : ¬ mL v i < 0 := Int32.not_lt.mpr c13
            refine lv_iconst (v := nI 0) hx hb dX1_left_20 (by decide) ?_
            refine lv_iadd hx hb dX1_left_21 ?_
            refine wk_i (y := mL v (i + 1)) (by show _ = mStep (mL v i); unfold mStep; first | rw [if_pos c13] | rw [if_neg c13]) ?_
            refine lv_istore_n (lv' := [(2, .int (mL v (i + 1))), (0, .int v), (1, .int (nI n)), (3, .int (nI i))]) hx hb dX1_left_22 rfl hl (by decide) rfl (fun ls hl => ?_)
            refine lv_iinc (v := nI (i + 1)) (lv' := [(3, .int (nI (i + 1))), (2, .int (mL v (i + 1))), (0, .int v), (1, .int (nI n))]) hx hb dX1_left_23 hl (k := 3) rfl (wk_inc i (by decide)) (by decide) rfl (fun ls hl => ?_)
            refine lv_goto (tgt := 4) hx hb dX1_left_26 (by decide) ?_
            exact ih (i + 1) (by omega) (by omega) ls (lv_sub hl [2, 3, 1, 0] rfl)
          · have c13 : mL v i < 0 := Int32.not_le.mp c13
            refine lv_iconst (v := nI 1) hx hb dX1_left_16 (by decide) ?_
            refine lv_goto (tgt := 21) hx hb dX1_left_17 (by decide) ?_
            refine lv_iadd hx hb dX1_left_21 ?_
            refine wk_i (y := mL v (i + 1)) (by show _ = mStep (mL v i); unfold mStep; first | rw [if_pos c13] | rw [if_neg c13]) ?_
            refine lv_istore_n (lv' := [(2, .int (mL v (i + 1))), (0, .int v), (1, .int (nI n)), (3, .int (nI i))]) hx hb dX1_left_22 rfl hl (by decide) rfl (fun ls hl => ?_)
            refine lv_iinc (v := nI (i + 1)) (lv' := [(3, .int (nI (i + 1))), (2, .int (mL v (i + 1))), (0, .int v), (1, .int (nI n))]) hx hb dX1_left_23 hl (k := 3) rfl (wk_inc i (by decide)) (by decide) rfl (fun ls hl => ?_)
            refine lv_goto (tgt := 4) hx hb dX1_left_26 (by decide) ?_
            exact ih (i + 1) (by omega) (by omega) ls (lv_sub hl [2, 3, 1, 0] rfl)
  refine lv_iload_n hx hb dX1_left_0 rfl (lv_at hl 0 rfl) ?_
  refine lv_istore_n (lv' := [(2, .int v), (0, .int v), (1, .int (nI n))]) hx hb dX1_left_1 rfl hl (by decide) rfl (fun ls hl => ?_)
  refine lv_iconst (v := nI 0) hx hb dX1_left_2 (by decide) ?_
  refine lv_istore_n (lv' := [(3, .int (nI 0)), (2, .int v), (0, .int v), (1, .int (nI n))]) hx hb dX1_left_3 rfl hl (by decide) rfl (fun ls hl => ?_)
  exact lp (n + 1) 0 (by omega) (by omega) ls (lv_sub hl [2, 3, 1, 0] rfl)
theorem c_X1_left (l : Launch) (v : Int32) (n : Nat) (h0 : 0 < n) (hn : n < 32) : Met l yX1_left wsX1_left ({ frames := 0, cells := 0, slots := 0, locals := 0 }) (va_Pc [.int v, .int (nI n)] (fun _ => True)) (vp_Si (fun r9 => r9 = rotL v (nI n))) 0 0 (fun _ => False) := by
  rw [← mL_rotL v h0 hn]
  exact c_X1_left0 l v n (by omega)
set_option maxHeartbeats 4000000 in
set_option maxRecDepth 100000 in
theorem c_X1_right (l : Launch) (v : Int32) (n : Nat) (h0 : 0 < n) (hn : n < 32) : Met l yX1_right wsX1_right ({ frames := 1, cells := 0, slots := 0, locals := 23 }) (va_Pc [.int v, .int (nI n)] (fun _ => True)) (vp_Si (fun r9 => r9 = rotR v (nI n))) 0 0 (fun _ => False) := by
  refine Met.ofW (cc := cX1_right) (maxL := 2) (ret := (some .int)) (by decide) rfl ?_
  intro p e s m args below meth c s₁ B hml hv
  obtain ⟨rfl, -⟩ := hv
  have hx := B.exec
  have hb := B.bytes
  have hr := B.returns
  have hts := atoms_spec (ws := wsX1_right) B.pre
  have hown : s.vm.findClass RX1 = some m.cls := findClass_of_methodNamed B.named
  have hlocks := B.notSynchronized
  have hl := lv_entry ([.int v, .int (nI n)]) (n := 2) (Nat.le_of_ble_eq_true rfl)
  rw [lg_entry_eq]
  generalize (lg_sl ([.int v, .int (nI n)]) ++ List.replicate (2 - (lg_sl ([.int v, .int (nI n)])).length) Slot.unset).toArray = ls at hl ⊢
  have hl : lv_has ls 2 [(0, .int v), (1, .int (nI n))] := hl
  refine lv_iload_n hx hb dX1_right_0 rfl (lv_at hl 0 rfl) ?_
  refine lv_bipush (v := nI 32) hx hb dX1_right_1 (by decide) ?_
  refine lv_iload_n hx hb dX1_right_3 rfl (lv_at hl 1 rfl) ?_
  refine wk_isubN hx hb (a := 32) (b := n) (by omega) dX1_right_4 ?_
  refine wk_Sp (v := mL v (32 - n)) (As := [.int v, .int (nI (32 - n))]) (rest := []) ⟨hx, hb, hml, hown, hts⟩ (c_X1_left0 l v (32 - n) (by omega)) (va_cwS 2 hts gX1_right_X1_left rfl rfl rfl (by decide +kernel) ⟨Nat.le_of_ble_eq_true rfl, Nat.le_of_ble_eq_true rfl⟩) rfl hl.1 rfl (Nat.le_of_ble_eq_true rfl) dX1_right_5 ⟨Nat.zero_le _, Nat.zero_le _⟩ ?_
  exact W.iret (v := mL v (32 - n)) hx hb hr (fun t ht hW => ⟨_, rfl, mL_rotR v h0 hn, ht⟩) (fun q h => absurd h List.not_mem_nil) dX1_right_8
set_option maxRecDepth 100000 in
theorem in_X1_keyByte : ∀ w ∈ wsX10, w ∈ wsX1_keyByte := by decide +kernel
set_option maxHeartbeats 4000000 in
set_option maxRecDepth 100000 in
theorem c_X1_keyByte (l : Launch) (D : va_G) (cI : ClassId) (sz : Nat) (h0 a1 a4 a5 a6 a7 a9 a10 a11 a12 : Nat) (th rd zz : Int32) (kb n : Nat) (K : Nat → Int32) (h1 : n < 32) (h2 : kb ≤ 32) : Met l yX1_keyByte wsX1_keyByte ({ frames := 0, cells := 0, slots := 0, locals := 0 }) (va_Pc [.ref h0, .int (nI n)] (fun U => PW D [(cI, .int)] [(h0, .inr (1, [.int th, .ref a1, .int (nI kb), .int rd, .ref a4, .ref a5, .ref a6, .ref a7, .int zz, .ref a9, .ref a10, .ref a11, .ref a12])), (a1, .inl (cI, 8, .inl K))] sz U ∧ True)) (vp_Si (fun r9 => r9 = cKB K kb n)) 0 0 (fun _ => False) := by
  refine Met.ofW (cc := cX1_keyByte) (maxL := 2) (ret := (some .int)) (by decide) rfl ?_
  intro p e s m args below meth c s₁ B hml hv
  obtain ⟨rfl, ⟨hsz, hP, hK, hD0⟩, -⟩ := hv
  have hx := B.exec
  have hb := B.bytes
  have hr := B.returns
  have hts := atoms_spec (ws := wsX1_keyByte) B.pre
  have hown : s.vm.findClass RX1 = some m.cls := findClass_of_methodNamed B.named
  have hlocks := B.notSynchronized
  subst hsz
  have hD := hD0.self (sz := s.heap.size)
  have hinX1 := in_X1_keyByte
  generalize hAe : va_A [(h0, .inr (1, [.int th, .ref a1, .int (nI kb), .int rd, .ref a4, .ref a5, .ref a6, .ref a7, .int zz, .ref a9, .ref a10, .ref a11, .ref a12])), (a1, .inl (cI, 8, .inl K))] s.heap.size = A at hD
  have hA : ∀ q : Nat, s.heap.size ≤ q → A q := fun q h => by rw [← hAe]; exact Or.inr h
  have hS : va_S A s.heap s.heap [] := va_S.rf
  have hl := lv_entry ([.ref h0, .int (nI n)]) (n := 2) (Nat.le_of_ble_eq_true rfl)
  rw [lg_entry_eq]
  generalize (lg_sl ([.ref h0, .int (nI n)]) ++ List.replicate (2 - (lg_sl ([.ref h0, .int (nI n)])).length) Slot.unset).toArray = ls at hl ⊢
  have hl : lv_has ls 2 [(0, .ref h0), (1, .int (nI n))] := hl
  refine lv_iload_n hx hb dX1_keyByte_0 rfl (lv_at hl 1 rfl) ?_
  refine lv_aload_n hx hb dX1_keyByte_1 rfl (lv_at hl 0 rfl) ?_
  refine va_get (D := D) (ci := 1) (v := .int (nI kb)) (C := RX1) (T := TX1) (N := 13) hx hb hts hinX1 hown hK hP 0 rfl rfl 2 (by decide) (hts (.fieldLink RX1 63 "SlicedCipherModel" "bytes" "I") (by decide +kernel)) (fun _ h9 => h9) rfl dX1_keyByte_2 ?_
  refine wk_geN (tgt := 30) hx hb (a := n) (b := kb) (by omega) (by omega) dX1_keyByte_5 (by decide) (fun c5 => ?_) (fun c5 => ?_)
  · refine lv_iload_n hx hb dX1_keyByte_30 rfl (lv_at hl 1 rfl) ?_
    refine lv_aload_n hx hb dX1_keyByte_31 rfl (lv_at hl 0 rfl) ?_
    refine va_get (D := D) (ci := 1) (v := .int (nI kb)) (C := RX1) (T := TX1) (N := 13) hx hb hts hinX1 hown hK hP 0 rfl rfl 2 (by decide) (hts (.fieldLink RX1 63 "SlicedCipherModel" "bytes" "I") (by decide +kernel)) (fun _ h9 => h9) rfl dX1_keyByte_32 ?_
    refine wk_neN (tgt := 42) hx hb (a := n) (b := kb) (by omega) (by omega) dX1_keyByte_35 (by decide) (fun c35 => ?_) (fun c35 => ?_)
    · refine lv_iconst (v := nI 0) hx hb dX1_keyByte_42 (by decide) ?_
      exact W.iret (v := nI 0) hx hb hr (fun t ht hW => ⟨_, rfl, by unfold cKB; rw [if_neg (Nat.not_lt.mpr c5), if_neg c35], ht⟩) (fun q h => absurd h List.not_mem_nil) dX1_keyByte_43
    · refine lv_iconst (v := nI 1) hx hb dX1_keyByte_38 (by decide) ?_
      refine lv_goto (tgt := 43) hx hb dX1_keyByte_39 (by decide) ?_
      exact W.iret (v := nI 1) hx hb hr (fun t ht hW => ⟨_, rfl, by unfold cKB; rw [if_neg (Nat.not_lt.mpr c5), if_pos c35], ht⟩) (fun q h => absurd h List.not_mem_nil) dX1_keyByte_43
  · refine lv_aload_n hx hb dX1_keyByte_8 rfl (lv_at hl 0 rfl) ?_
    refine va_get (D := D) (ci := 1) (v := .ref a1) (C := RX1) (T := TX1) (N := 13) hx hb hts hinX1 hown hK hP 0 rfl rfl 1 (by decide) (hts (.fieldLink RX1 7 "SlicedCipherModel" "told" "[I") (by decide +kernel)) (fun _ h9 => h9) rfl dX1_keyByte_9 ?_
    refine lv_iload_n hx hb dX1_keyByte_12 rfl (lv_at hl 1 rfl) ?_
    refine lv_iconst (v := nI 4) hx hb dX1_keyByte_13 (by decide) ?_
    refine wk_idivN hx hb (a := n) (b := 4) (by omega) (by decide) (by decide) dX1_keyByte_14 ?_
    refine wk_iald hx hb hK hP 1 0 rfl rfl (k := n / 4) (by omega) (by decide) dX1_keyByte_15 ?_
    refine lv_bipush (v := nI 8) hx hb dX1_keyByte_16 (by decide) ?_
    refine lv_iload_n hx hb dX1_keyByte_18 rfl (lv_at hl 1 rfl) ?_
    refine lv_iconst (v := nI 4) hx hb dX1_keyByte_19 (by decide) ?_
    refine wk_iremN hx hb (a := n) (b := 4) (by omega) (by decide) (by decide) dX1_keyByte_20 ?_
    refine wk_imulN hx hb (a := 8) (b := n % 4) dX1_keyByte_21 ?_
    refine lv_ishr hx hb dX1_keyByte_22 ?_
    refine lv_sipush (v := nI 255) hx hb dX1_keyByte_23 (by decide) ?_
    refine lv_iand hx hb dX1_keyByte_26 ?_
    refine lv_goto (tgt := 43) hx hb dX1_keyByte_27 (by decide) ?_
    exact W.iret (v := ((K (n / 4)) >>> ((nI (8 * (n % 4))) &&& 31)) &&& (nI 255)) hx hb hr (fun t ht hW => ⟨_, rfl, (byte_sh _ (Nat.mod_lt _ (by decide))).trans (if_pos c5).symm, ht⟩) (fun q h => absurd h List.not_mem_nil) dX1_keyByte_43
set_option maxRecDepth 100000 in
theorem in_X1_back : ∀ w ∈ wsX10, w ∈ wsX1_back := by decide +kernel
set_option maxHeartbeats 4000000 in
set_option maxRecDepth 100000 in
theorem c_X1_back (l : Launch) (D : va_G) (cI : ClassId) (sz : Nat) (h0 a1 a4 a5 a6 a7 a9 a10 a11 a12 : Nat) (th by0 rd zz : Int32) (wh v : Nat) (h1 : wh < 8) (h2 : v < 16) : Met l yX1_back wsX1_back ({ frames := 0, cells := 0, slots := 0, locals := 0 }) (va_Pc [.ref h0, .int (nI wh), .int (nI v)] (fun U => PW D [(cI, .int)] [(h0, .inr (1, [.int th, .ref a1, .int by0, .int rd, .ref a4, .ref a5, .ref a6, .ref a7, .int zz, .ref a9, .ref a10, .ref a11, .ref a12])), (a9, .inl (cI, 128, .inl TB))] sz U ∧ True)) (vp_Si (fun r9 => r9 = nI (cSrc wh (nI v) 16))) 0 0 (fun _ => False) := by
  refine Met.ofW (cc := cX1_back) (maxL := 4) (ret := (some .int)) (by decide) rfl ?_
  intro p e s m args below meth c s₁ B hml hv
  obtain ⟨rfl, ⟨hsz, hP, hK, hD0⟩, -⟩ := hv
  have hx := B.exec
  have hb := B.bytes
  have hr := B.returns
  have hts := atoms_spec (ws := wsX1_back) B.pre
  have hown : s.vm.findClass RX1 = some m.cls := findClass_of_methodNamed B.named
  have hlocks := B.notSynchronized
  subst hsz
  have hD := hD0.self (sz := s.heap.size)
  have hinX1 := in_X1_back
  generalize hAe : va_A [(h0, .inr (1, [.int th, .ref a1, .int by0, .int rd, .ref a4, .ref a5, .ref a6, .ref a7, .int zz, .ref a9, .ref a10, .ref a11, .ref a12])), (a9, .inl (cI, 128, .inl TB))] s.heap.size = A at hD
  have hA : ∀ q : Nat, s.heap.size ≤ q → A q := fun q h => by rw [← hAe]; exact Or.inr h
  have hS : va_S A s.heap s.heap [] := va_S.rf
  have hl := lv_entry ([.ref h0, .int (nI wh), .int (nI v)]) (n := 4) (Nat.le_of_ble_eq_true rfl)
  rw [lg_entry_eq]
  generalize (lg_sl ([.ref h0, .int (nI wh), .int (nI v)]) ++ List.replicate (4 - (lg_sl ([.ref h0, .int (nI wh), .int (nI v)])).length) Slot.unset).toArray = ls at hl ⊢
  have hl : lv_has ls 4 [(0, .ref h0), (1, .int (nI wh)), (2, .int (nI v))] := hl
  obtain ⟨hv1, hv2, hv3⟩ := iv_fin wh h1 v h2
  have lp : ∀ (fu : Nat) (k : Nat), k ≤ cSrc wh (nI v) 16 → 17 ≤ k + fu → ∀ (ls : Array Slot), lv_has ls 4 [(0, .ref h0), (1, .int (nI wh)), (2, .int (nI v)), (3, .int (nI k))] → W p l e ((headSpec wsX1_back ({ frames := 0, cells := 0, slots := 0, locals := 0 })).room) s m ([.ref h0, .int (nI wh), .int (nI v)] : List Value).toArray below meth c s.heap [] 0 0 (MQ below (vp_Si (fun r9 => r9 = nI (cSrc wh (nI v) 16))) ([.ref h0, .int (nI wh), .int (nI v)] : List Value).toArray s 0 0 (fun _ => False)) (F0 m 2 ls []) := by
    intro fu
    induction fu with
      | zero => intro k hi hfu; exact absurd hfu (by omega)
      | succ fu ih =>
        intro k hi hfu ls hl
        refine lv_aload_n hx hb dX1_back_2 rfl (lv_at hl 0 rfl) ?_
        refine va_get (D := D) (ci := 1) (v := .ref a9) (C := RX1) (T := TX1) (N := 13) hx hb hts hinX1 hown hK hP 0 rfl rfl 9 (by decide) (hts (.fieldLink RX1 25 "SlicedCipherModel" "rows" "[I") (by decide +kernel)) (fun _ h9 => h9) rfl dX1_back_3 ?_
        refine lv_bipush (v := nI 16) hx hb dX1_back_6 (by decide) ?_
        refine lv_iload_n hx hb dX1_back_8 rfl (lv_at hl 1 rfl) ?_
        refine wk_imulN hx hb (a := 16) (b := wh) dX1_back_9 ?_
        refine lv_iload_n hx hb dX1_back_10 rfl (lv_at hl 3 rfl) ?_
        refine wk_iaddN hx hb (a := 16 * wh) (b := k) dX1_back_11 ?_
        refine wk_iald hx hb hK hP 1 0 rfl rfl (k := (16 * wh) + k) (by omega) (by decide) dX1_back_12 ?_
        refine lv_iload_n hx hb dX1_back_13 rfl (lv_at hl 2 rfl) ?_
        refine lv_icmp_eq (tgt := 23) hx hb dX1_back_14 (by decide) (fun c14 => ?_) (fun c14 => ?_)
        · refine lv_iload_n hx hb dX1_back_23 rfl (lv_at hl 3 rfl) ?_
          exact W.iret (v := nI k) hx hb hr (fun t ht hW => ⟨_, rfl, by rw [hv3 k (by omega) c14], ht⟩) (fun q h => absurd h List.not_mem_nil) dX1_back_24
        · have hne : k ≠ cSrc wh (nI v) 16 := fun h9 => c14 (by rw [h9]; exact hv2)
          refine lv_iinc (v := nI (k + 1)) (lv' := [(3, .int (nI (k + 1))), (0, .ref h0), (1, .int (nI wh)), (2, .int (nI v))]) hx hb dX1_back_17 hl (k := 3) rfl (wk_inc k (by decide)) (by decide) rfl (fun ls hl => ?_)
          refine lv_goto (tgt := 2) hx hb dX1_back_20 (by decide) ?_
          exact ih (k + 1) (by omega) (by omega) ls (lv_sub hl [1, 2, 3, 0] rfl)
  refine lv_iconst (v := nI 0) hx hb dX1_back_0 (by decide) ?_
  refine lv_istore_n (lv' := [(3, .int (nI 0)), (0, .ref h0), (1, .int (nI wh)), (2, .int (nI v))]) hx hb dX1_back_1 rfl hl (by decide) rfl (fun ls hl => ?_)
  exact lp 17 0 (by omega) (by omega) ls (lv_sub hl [1, 2, 3, 0] rfl)
