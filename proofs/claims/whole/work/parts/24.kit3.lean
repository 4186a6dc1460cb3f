/-! what a throw needs of the world, beside the words -/
def thw (X : String) (is : Nat) (text : String) (sa : Nat) (A : Nat → Prop) (U : State) (H : Heap) : Prop :=
  va_Nw (.declares (Bundle.initS "java/lang/RuntimeException")) U ∧ va_Nw (.declares (Bundle.initS "java/lang/Exception")) U ∧ va_Nw (.declares (Bundle.initS Bundle.tN)) U ∧ va_Nw (.castable X X) U ∧ vx_Zq Bundle.tN "UNASSIGNED_STACK" Bundle.steD A U H ∧ vx_Zq Bundle.tN "SUPPRESSED_SENTINEL" Bundle.listD A U H ∧ vk_R RX0 is text sa U
theorem thw.call {X : String} {is : Nat} {text : String} {sa : Nat} {A : Nat → Prop} {U : State} (g : JFrame) (mk : MethodId) (a : Array Value) (h : thw X is text sa A U U.heap) : thw X is text sa A (U.calling g mk a) (U.calling g mk a).heap :=
  ⟨va_Nw.same rfl (u := U) (U := U.calling g mk a) rfl h.1, va_Nw.same rfl (u := U) (U := U.calling g mk a) rfl h.2.1, va_Nw.same rfl (u := U) (U := U.calling g mk a) rfl h.2.2.1, va_Nw.same rfl (u := U) (U := U.calling g mk a) rfl h.2.2.2.1, vx_Zq.moved (u := U) (U := U.calling g mk a) (Vm.Alike.refl U.vm) h.2.2.2.2.1, vx_Zq.moved (u := U) (U := U.calling g mk a) (Vm.Alike.refl U.vm) h.2.2.2.2.2.1, vk_R.same (u := U) (U := U.calling g mk a) rfl h.2.2.2.2.2.2⟩
theorem thw.give {X : String} {is : Nat} {text : String} {sa : Nat} {A B : Nat → Prop} {s : State} {H : Heap} {locs : List Loc} (h : thw X is text sa A s s.heap) (hS : va_S A s.heap H locs) (hBA : ∀ q, B q → A q) {U : State} (hU : U.heap = H) (hW : s.WarmedH U.vm) : thw X is text sa B U U.heap := by
  rw [hU]
  exact ⟨va_Nw.warmD hW h.1, va_Nw.warmD hW h.2.1, va_Nw.warmD hW h.2.2.1, va_Nw.warmC hW h.2.2.2.1, ((h.2.2.2.2.1.kept hS.2.1).narrow hBA).moved hW.alike, ((h.2.2.2.2.2.1.kept hS.2.1).narrow hBA).moved hW.alike, vk_R.warm hW h.2.2.2.2.2.2⟩
section
variable {p : Program} {l : Launch} {e : Env} {R : Room} {s : State} {m : MethodId} {args : Array Value} {below : List Frame} {meth : Method} {c : Code} {H : Heap} {locs : List Loc} {cells slots : Nat} {Q : State → Prop} {cc : ByteArray} {pc : Nat} {ls : Array Slot} {rest : List Value}
variable {y : MethodName} {bytes : ByteArray} {maxL nL n index : Nat} {ret : Option FieldType} {wy : List Cond} {rm : Room} {Ts : List Cond} {own C cls : String} {As st0 : List Value} {D : va_G} {tys : List (ClassId × FieldType)} {ws wc wr : va_W} {A : Nat → Prop} {X : State → Prop} {b : Nat}
/-- a void method that throws here -/
theorem wk_Vxv {ci q0 : Nat} {q9 : vw_C} {fs : List Value} (S : CallFix p m c cc nL s args Ts own) (hM : vx_Met l y wy rm (va_Pc (.ref b :: As) (fun V => PW D tys wc H.size V ∧ X V)) (va_Qv (fun _ : Unit => False) (fun _ _ => True) (va_A wc H.size)) (vx_X (fun _ : Unit => True) (fun E _ t => E = cls ∧ BW D tys (va_A wc H.size) wc t) (va_A wc H.size)) 1 6 (va_A wc H.size)) (cw : CallW R s args own q9.1 index y bytes maxL ret wy rm 1 6 n)
    (hXb : ∀ (V : State) (g : JFrame) (mk : MethodId) (a : Array Value), X V → X (V.calling g mk a)) (hX : (∀ q, va_A wc H.size q → A q) → ∀ V : State, V.heap = H → s.WarmedH V.vm → X V) (hK : va_K D vwCl tys s) (hP : va_P D vwCl ws H) (hD : va_D A ws) (hS : va_S A s.heap H locs) (hA : ∀ q : Nat, s.heap.size ≤ q → A q) (hc : vwCl[ci]? = some q9) (he : ws[q0]? = some (b, .inr (ci, fs)))
    (isC isR : List Nat) (hC : isC.map (fun i => ws[i]?) = wc.map some) (hnC : va_nd isC = true) (hR : isR.map (fun i => ws[i]?) = wr.map some) (hnR : va_nd isR = true) (hdis : ∀ i ∈ isR, i ∉ isC) (isF : List Nat) (hF : isF.map (fun i => (wr ++ wc)[i]?) = ws.map some) (hnF : va_nd isF = true)
    (hn : As.length = n) (hsize : ls.size = nL) (hst : st0 = As.reverse ++ .ref b :: rest) (hW : (rest.map fun v => v.category).sum ≤ 8) (hdg : decode cc pc = .ok (.invokevirtual index, 3)) (hf : cells + 1 ≤ R.cells ∧ slots + 6 ≤ R.slots)
    (kx : ∀ (ce : Cell) (q : Addr) (H1 : Heap) (locs1 : List Loc), va_P D vwCl ws H1 → va_D A ws → va_S A s.heap H1 locs1 → H1[q]? = some ce → ce.vm = .none → s.vm.findClass cls = some ce.cls → vx_W p l e R s m args below meth c H1 locs1 (cells + 1) (slots + 6) Q (F0 m pc ls rest) q) : W p l e R s m args below meth c H locs cells slots Q (F0 m pc ls st0) := by
  have hPc := hP.sub (ws' := wc) isC (fm_of_map _ _ _ hC)
  have hDc := hD.sub (ws' := wc) isC hnC hC
  have hFc := va_free (wc := wc) hD hS hA isC hC
  refine vx_callv (vx_runV (As := As) (rest := rest) S hM cw ⟨fun a V g mk h => ⟨h.1, PW.call g mk a h.2.1, hXb V g mk a h.2.2⟩, va_recv hK hP hc he, fun V hU hW9 => ⟨rfl, ⟨by rw [hU], by rw [hU]; exact hPc, va_K.moved hW9.alike hK, hDc.weaken (fun _ _ _ _ => trivial)⟩, hX hFc V hU hW9⟩⟩ rfl hn hsize hst (lv_room hW) hdg hf) hS (fun q _ h => hFc q h) hFc (fun q _ h => hFc q h) (fun E ce q9 u t H1 locs1 ht hvm hpx hB hz1 hk1 hS1 hce hcv hcl => ?_) (fun u t H1 locs1 ht hvm hw hB hz1 hk1 hS1 => hw.elim)
  obtain ⟨rfl, hP1, hK1, hD1⟩ := hB
  rw [ht] at hP1
  obtain ⟨hP2, hD2⟩ := va_join (wr := wr) (w1 := wc) hP hD isC isR hC hR hnR hdis hk1 hFc hP1 hD1
  exact kx ce q9 H1 locs1 (hP2.sub isF (fm_of_map _ _ _ hF)) (hD2.sub isF hnF hF) hS1 hce hcv hcl
/-- a method with an int answer that throws here -/
theorem wk_Vxi {ci q0 : Nat} {q9 : vw_C} {fs : List Value} (S : CallFix p m c cc nL s args Ts own) (hM : vx_Met l y wy rm (va_Pc (.ref b :: As) (fun V => PW D tys wc H.size V ∧ X V)) (va_Qi (fun (_ : Int32) (_ : Unit) => False) (fun _ _ => True) (va_A wc H.size)) (vx_X (fun _ : Unit => True) (fun E _ t => E = cls ∧ BW D tys (va_A wc H.size) wc t) (va_A wc H.size)) 1 6 (va_A wc H.size)) (cw : CallW R s args own q9.1 index y bytes maxL ret wy rm 1 6 n)
    (hXb : ∀ (V : State) (g : JFrame) (mk : MethodId) (a : Array Value), X V → X (V.calling g mk a)) (hX : (∀ q, va_A wc H.size q → A q) → ∀ V : State, V.heap = H → s.WarmedH V.vm → X V) (hK : va_K D vwCl tys s) (hP : va_P D vwCl ws H) (hD : va_D A ws) (hS : va_S A s.heap H locs) (hA : ∀ q : Nat, s.heap.size ≤ q → A q) (hc : vwCl[ci]? = some q9) (he : ws[q0]? = some (b, .inr (ci, fs)))
    (isC isR : List Nat) (hC : isC.map (fun i => ws[i]?) = wc.map some) (hnC : va_nd isC = true) (hR : isR.map (fun i => ws[i]?) = wr.map some) (hnR : va_nd isR = true) (hdis : ∀ i ∈ isR, i ∉ isC) (isF : List Nat) (hF : isF.map (fun i => (wr ++ wc)[i]?) = ws.map some) (hnF : va_nd isF = true)
    (hn : As.length = n) (hsize : ls.size = nL) (hst : st0 = As.reverse ++ .ref b :: rest) (hW : (rest.map fun v => v.category).sum ≤ 8) (hdg : decode cc pc = .ok (.invokevirtual index, 3)) (hf : cells + 1 ≤ R.cells ∧ slots + 6 ≤ R.slots)
    (kx : ∀ (ce : Cell) (q : Addr) (H1 : Heap) (locs1 : List Loc), va_P D vwCl ws H1 → va_D A ws → va_S A s.heap H1 locs1 → H1[q]? = some ce → ce.vm = .none → s.vm.findClass cls = some ce.cls → vx_W p l e R s m args below meth c H1 locs1 (cells + 1) (slots + 6) Q (F0 m pc ls rest) q) : W p l e R s m args below meth c H locs cells slots Q (F0 m pc ls st0) := by
  have hPc := hP.sub (ws' := wc) isC (fm_of_map _ _ _ hC)
  have hDc := hD.sub (ws' := wc) isC hnC hC
  have hFc := va_free (wc := wc) hD hS hA isC hC
  refine vx_calli (vx_runV (As := As) (rest := rest) S hM cw ⟨fun a V g mk h => ⟨h.1, PW.call g mk a h.2.1, hXb V g mk a h.2.2⟩, va_recv hK hP hc he, fun V hU hW9 => ⟨rfl, ⟨by rw [hU], by rw [hU]; exact hPc, va_K.moved hW9.alike hK, hDc.weaken (fun _ _ _ _ => trivial)⟩, hX hFc V hU hW9⟩⟩ rfl hn hsize hst (lv_room hW) hdg hf) hS (fun q _ h => hFc q h) hFc (fun q _ h => hFc q h) (fun E ce q9 u t H1 locs1 ht hvm hpx hB hz1 hk1 hS1 hce hcv hcl => ?_) (fun r u t H1 locs1 ht hvm hw hB hz1 hk1 hS1 => hw.elim)
  obtain ⟨rfl, hP1, hK1, hD1⟩ := hB
  rw [ht] at hP1
  obtain ⟨hP2, hD2⟩ := va_join (wr := wr) (w1 := wc) hP hD isC isR hC hR hnR hdis hk1 hFc hP1 hD1
  exact kx ce q9 H1 locs1 (hP2.sub isF (fm_of_map _ _ _ hF)) (hD2.sub isF hnF hF) hS1 hce hcv hcl
end
