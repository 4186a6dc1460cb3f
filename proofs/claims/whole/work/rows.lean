section
-- ===== PART A: goes FIRST, ahead of the names: the tables' words, and 'selects' of the private methods out of them =====
/-- a private method of a class that the tables say can be made, by its rows of tables_1 -/
def lw_okq (q : MethodName × Nat) : Prop := (q.1.cls ≠ "java/lang/invoke/MethodHandle" ∧ q.1.cls ≠ "java/lang/invoke/VarHandle") ∧ Cond.instantiable q.1.cls q.2 ∈ tables_1 ∧ Cond.privateMethod q.1 ∈ tables_1 ∧ Cond.instanceMethod q.1 ∈ tables_1
theorem lw_p0 : lw_okq (⟨"SlicedCipher", "paddedKeyWord", "(I)I"⟩, 9) := ⟨⟨by decide +kernel, by decide +kernel⟩, List.mem_of_getElem? (i := 13) (by decide +kernel), List.mem_of_getElem? (i := 54) (by decide +kernel), List.mem_of_getElem? (i := 55) (by decide +kernel)⟩
theorem lw_p1 : lw_okq (⟨"SlicedCipher", "paddedKeyByte", "(I)I"⟩, 9) := ⟨⟨by decide +kernel, by decide +kernel⟩, List.mem_of_getElem? (i := 13) (by decide +kernel), List.mem_of_getElem? (i := 58) (by decide +kernel), List.mem_of_getElem? (i := 59) (by decide +kernel)⟩
theorem lw_p2 : lw_okq (⟨"SlicedCipher", "spreadKey", "()V"⟩, 9) := ⟨⟨by decide +kernel, by decide +kernel⟩, List.mem_of_getElem? (i := 13) (by decide +kernel), List.mem_of_getElem? (i := 62) (by decide +kernel), List.mem_of_getElem? (i := 63) (by decide +kernel)⟩
theorem lw_p3 : lw_okq (⟨"java/lang/Throwable", "fillInStackTrace", "(I)Ljava/lang/Throwable;"⟩, 6) := ⟨⟨by decide +kernel, by decide +kernel⟩, List.mem_of_getElem? (i := 133) (by decide +kernel), List.mem_of_getElem? (i := 131) (by decide +kernel), List.mem_of_getElem? (i := 132) (by decide +kernel)⟩
theorem lw_p4 : lw_okq (⟨"SlicedCipher", "needReadyKey", "()V"⟩, 9) := ⟨⟨by decide +kernel, by decide +kernel⟩, List.mem_of_getElem? (i := 13) (by decide +kernel), List.mem_of_getElem? (i := 196) (by decide +kernel), List.mem_of_getElem? (i := 197) (by decide +kernel)⟩
theorem lw_p5 : lw_okq (⟨"SlicedCipher", "needWholeBlocks", "()V"⟩, 9) := ⟨⟨by decide +kernel, by decide +kernel⟩, List.mem_of_getElem? (i := 13) (by decide +kernel), List.mem_of_getElem? (i := 268) (by decide +kernel), List.mem_of_getElem? (i := 269) (by decide +kernel)⟩
theorem lw_p6 : lw_okq (⟨"SlicedCipher", "maskByCounter", "()V"⟩, 9) := ⟨⟨by decide +kernel, by decide +kernel⟩, List.mem_of_getElem? (i := 13) (by decide +kernel), List.mem_of_getElem? (i := 273) (by decide +kernel), List.mem_of_getElem? (i := 274) (by decide +kernel)⟩
theorem lw_p7 : lw_okq (⟨"SlicedCipher", "encipher", "([II)V"⟩, 9) := ⟨⟨by decide +kernel, by decide +kernel⟩, List.mem_of_getElem? (i := 13) (by decide +kernel), List.mem_of_getElem? (i := 280) (by decide +kernel), List.mem_of_getElem? (i := 281) (by decide +kernel)⟩
theorem lw_p8 : lw_okq (⟨"SlicedCipher", "countOneMore", "()V"⟩, 9) := ⟨⟨by decide +kernel, by decide +kernel⟩, List.mem_of_getElem? (i := 13) (by decide +kernel), List.mem_of_getElem? (i := 290) (by decide +kernel), List.mem_of_getElem? (i := 291) (by decide +kernel)⟩
theorem lw_p9 : lw_okq (⟨"SlicedCipher", "unchainTape", "()V"⟩, 9) := ⟨⟨by decide +kernel, by decide +kernel⟩, List.mem_of_getElem? (i := 13) (by decide +kernel), List.mem_of_getElem? (i := 294) (by decide +kernel), List.mem_of_getElem? (i := 295) (by decide +kernel)⟩
theorem lw_p10 : lw_okq (⟨"SlicedCipher", "decipher", "([II)V"⟩, 9) := ⟨⟨by decide +kernel, by decide +kernel⟩, List.mem_of_getElem? (i := 13) (by decide +kernel), List.mem_of_getElem? (i := 298) (by decide +kernel), List.mem_of_getElem? (i := 299) (by decide +kernel)⟩
theorem lw_p11 : lw_okq (⟨"SlicedCipher", "xorWithOneBefore", "(I)V"⟩, 9) := ⟨⟨by decide +kernel, by decide +kernel⟩, List.mem_of_getElem? (i := 13) (by decide +kernel), List.mem_of_getElem? (i := 308) (by decide +kernel), List.mem_of_getElem? (i := 309) (by decide +kernel)⟩
theorem lw_p12 : lw_okq (⟨"SlicedCipher", "chainTape", "()V"⟩, 9) := ⟨⟨by decide +kernel, by decide +kernel⟩, List.mem_of_getElem? (i := 13) (by decide +kernel), List.mem_of_getElem? (i := 312) (by decide +kernel), List.mem_of_getElem? (i := 313) (by decide +kernel)⟩
theorem lw_p13 : lw_okq (⟨"SlicedCipher", "changeEachBlock", "(Z)V"⟩, 9) := ⟨⟨by decide +kernel, by decide +kernel⟩, List.mem_of_getElem? (i := 13) (by decide +kernel), List.mem_of_getElem? (i := 316) (by decide +kernel), List.mem_of_getElem? (i := 317) (by decide +kernel)⟩
theorem lw_p14 : lw_okq (⟨"SlicedCipherModel", "good", "(ZZ)Z"⟩, 13) := ⟨⟨by decide +kernel, by decide +kernel⟩, List.mem_of_getElem? (i := 328) (by decide +kernel), List.mem_of_getElem? (i := 385) (by decide +kernel), List.mem_of_getElem? (i := 386) (by decide +kernel)⟩
theorem lw_p15 : lw_okq (⟨"SlicedCipherModel", "keyByte", "(I)I"⟩, 13) := ⟨⟨by decide +kernel, by decide +kernel⟩, List.mem_of_getElem? (i := 328) (by decide +kernel), List.mem_of_getElem? (i := 397) (by decide +kernel), List.mem_of_getElem? (i := 398) (by decide +kernel)⟩
def lw_privs_1 : List (MethodName × Nat) := [(⟨"SlicedCipher", "paddedKeyWord", "(I)I"⟩, 9), (⟨"SlicedCipher", "paddedKeyByte", "(I)I"⟩, 9), (⟨"SlicedCipher", "spreadKey", "()V"⟩, 9), (⟨"java/lang/Throwable", "fillInStackTrace", "(I)Ljava/lang/Throwable;"⟩, 6), (⟨"SlicedCipher", "needReadyKey", "()V"⟩, 9), (⟨"SlicedCipher", "needWholeBlocks", "()V"⟩, 9), (⟨"SlicedCipher", "maskByCounter", "()V"⟩, 9), (⟨"SlicedCipher", "encipher", "([II)V"⟩, 9), (⟨"SlicedCipher", "countOneMore", "()V"⟩, 9), (⟨"SlicedCipher", "unchainTape", "()V"⟩, 9), (⟨"SlicedCipher", "decipher", "([II)V"⟩, 9), (⟨"SlicedCipher", "xorWithOneBefore", "(I)V"⟩, 9), (⟨"SlicedCipher", "chainTape", "()V"⟩, 9), (⟨"SlicedCipher", "changeEachBlock", "(Z)V"⟩, 9), (⟨"SlicedCipherModel", "good", "(ZZ)Z"⟩, 13), (⟨"SlicedCipherModel", "keyByte", "(I)I"⟩, 13)]
theorem lw_r1 : ∀ q ∈ lw_privs_1, lw_okq q := List.forall_mem_cons.mpr ⟨lw_p0, List.forall_mem_cons.mpr ⟨lw_p1, List.forall_mem_cons.mpr ⟨lw_p2, List.forall_mem_cons.mpr ⟨lw_p3, List.forall_mem_cons.mpr ⟨lw_p4, List.forall_mem_cons.mpr ⟨lw_p5, List.forall_mem_cons.mpr ⟨lw_p6, List.forall_mem_cons.mpr ⟨lw_p7, List.forall_mem_cons.mpr ⟨lw_p8, List.forall_mem_cons.mpr ⟨lw_p9, List.forall_mem_cons.mpr ⟨lw_p10, List.forall_mem_cons.mpr ⟨lw_p11, List.forall_mem_cons.mpr ⟨lw_p12, List.forall_mem_cons.mpr ⟨lw_p13, List.forall_mem_cons.mpr ⟨lw_p14, List.forall_mem_cons.mpr ⟨lw_p15, fun _ h => absurd h List.not_mem_nil⟩⟩⟩⟩⟩⟩⟩⟩⟩⟩⟩⟩⟩⟩⟩⟩
theorem lw_p16 : lw_okq (⟨"SlicedCipherModel", "through", "(IZ)V"⟩, 13) := ⟨⟨by decide +kernel, by decide +kernel⟩, List.mem_of_getElem? (i := 328) (by decide +kernel), List.mem_of_getElem? (i := 405) (by decide +kernel), List.mem_of_getElem? (i := 406) (by decide +kernel)⟩
theorem lw_p17 : lw_okq (⟨"SlicedCipherModel", "back", "(II)I"⟩, 13) := ⟨⟨by decide +kernel, by decide +kernel⟩, List.mem_of_getElem? (i := 328) (by decide +kernel), List.mem_of_getElem? (i := 409) (by decide +kernel), List.mem_of_getElem? (i := 410) (by decide +kernel)⟩
theorem lw_p18 : lw_okq (⟨"SlicedCipherModel", "alone", "(IZ)V"⟩, 13) := ⟨⟨by decide +kernel, by decide +kernel⟩, List.mem_of_getElem? (i := 328) (by decide +kernel), List.mem_of_getElem? (i := 441) (by decide +kernel), List.mem_of_getElem? (i := 442) (by decide +kernel)⟩
theorem lw_p19 : lw_okq (⟨"SlicedCipherModel", "load", "(I)V"⟩, 13) := ⟨⟨by decide +kernel, by decide +kernel⟩, List.mem_of_getElem? (i := 328) (by decide +kernel), List.mem_of_getElem? (i := 445) (by decide +kernel), List.mem_of_getElem? (i := 446) (by decide +kernel)⟩
theorem lw_p20 : lw_okq (⟨"SlicedCipherModel", "undo", "()V"⟩, 13) := ⟨⟨by decide +kernel, by decide +kernel⟩, List.mem_of_getElem? (i := 328) (by decide +kernel), List.mem_of_getElem? (i := 449) (by decide +kernel), List.mem_of_getElem? (i := 450) (by decide +kernel)⟩
theorem lw_p21 : lw_okq (⟨"SlicedCipherModel", "xor", "(I)V"⟩, 13) := ⟨⟨by decide +kernel, by decide +kernel⟩, List.mem_of_getElem? (i := 328) (by decide +kernel), List.mem_of_getElem? (i := 453) (by decide +kernel), List.mem_of_getElem? (i := 454) (by decide +kernel)⟩
theorem lw_p22 : lw_okq (⟨"SlicedCipherModel", "unmix", "()V"⟩, 13) := ⟨⟨by decide +kernel, by decide +kernel⟩, List.mem_of_getElem? (i := 328) (by decide +kernel), List.mem_of_getElem? (i := 457) (by decide +kernel), List.mem_of_getElem? (i := 458) (by decide +kernel)⟩
theorem lw_p23 : lw_okq (⟨"SlicedCipherModel", "forth", "()V"⟩, 13) := ⟨⟨by decide +kernel, by decide +kernel⟩, List.mem_of_getElem? (i := 328) (by decide +kernel), List.mem_of_getElem? (i := 464) (by decide +kernel), List.mem_of_getElem? (i := 465) (by decide +kernel)⟩
theorem lw_p24 : lw_okq (⟨"SlicedCipherModel", "mix", "()V"⟩, 13) := ⟨⟨by decide +kernel, by decide +kernel⟩, List.mem_of_getElem? (i := 328) (by decide +kernel), List.mem_of_getElem? (i := 468) (by decide +kernel), List.mem_of_getElem? (i := 469) (by decide +kernel)⟩
theorem lw_p25 : lw_okq (⟨"SlicedCipherModel", "chained", "(IZ)V"⟩, 13) := ⟨⟨by decide +kernel, by decide +kernel⟩, List.mem_of_getElem? (i := 328) (by decide +kernel), List.mem_of_getElem? (i := 472) (by decide +kernel), List.mem_of_getElem? (i := 473) (by decide +kernel)⟩
theorem lw_p26 : lw_okq (⟨"SlicedCipherModel", "counted", "(I)V"⟩, 13) := ⟨⟨by decide +kernel, by decide +kernel⟩, List.mem_of_getElem? (i := 328) (by decide +kernel), List.mem_of_getElem? (i := 476) (by decide +kernel), List.mem_of_getElem? (i := 477) (by decide +kernel)⟩
def lw_privs_2 : List (MethodName × Nat) := [(⟨"SlicedCipherModel", "through", "(IZ)V"⟩, 13), (⟨"SlicedCipherModel", "back", "(II)I"⟩, 13), (⟨"SlicedCipherModel", "alone", "(IZ)V"⟩, 13), (⟨"SlicedCipherModel", "load", "(I)V"⟩, 13), (⟨"SlicedCipherModel", "undo", "()V"⟩, 13), (⟨"SlicedCipherModel", "xor", "(I)V"⟩, 13), (⟨"SlicedCipherModel", "unmix", "()V"⟩, 13), (⟨"SlicedCipherModel", "forth", "()V"⟩, 13), (⟨"SlicedCipherModel", "mix", "()V"⟩, 13), (⟨"SlicedCipherModel", "chained", "(IZ)V"⟩, 13), (⟨"SlicedCipherModel", "counted", "(I)V"⟩, 13)]
theorem lw_r2 : ∀ q ∈ lw_privs_2, lw_okq q := List.forall_mem_cons.mpr ⟨lw_p16, List.forall_mem_cons.mpr ⟨lw_p17, List.forall_mem_cons.mpr ⟨lw_p18, List.forall_mem_cons.mpr ⟨lw_p19, List.forall_mem_cons.mpr ⟨lw_p20, List.forall_mem_cons.mpr ⟨lw_p21, List.forall_mem_cons.mpr ⟨lw_p22, List.forall_mem_cons.mpr ⟨lw_p23, List.forall_mem_cons.mpr ⟨lw_p24, List.forall_mem_cons.mpr ⟨lw_p25, List.forall_mem_cons.mpr ⟨lw_p26, fun _ h => absurd h List.not_mem_nil⟩⟩⟩⟩⟩⟩⟩⟩⟩⟩⟩
def lw_privs : List (MethodName × Nat) := lw_privs_1 ++ (lw_privs_2)
def lw_tbl : List Cond := k2_sels lw_privs ++ tables_1
theorem lw_privs_ok : ∀ q ∈ lw_privs, lw_okq q := by
  show ∀ q ∈ lw_privs_1 ++ (lw_privs_2), lw_okq q
  exact List.forall_mem_append.mpr ⟨lw_r1, lw_r2⟩
end
section
/-! ===== BEGIN words of one list among another's, by their places ===== -/
theorem goodIn_r {big : List Cond} (ws : List Cond) (ps : List Nat) (hp : ws = ps.filterMap (fun i => big[i]?)) (h : ws.all goodWord = true) : GoodIn big ws := by
  intro w hw
  have h1 := List.all_eq_true.mp h w hw
  rw [hp] at hw
  obtain ⟨i, -, hi⟩ := List.mem_filterMap.mp hw
  have hm : w ∈ big := by first | exact List.mem_of_getElem? hi | exact List.getElem?_mem hi
  exact ⟨hm, good_of_word h1⟩
theorem goodIn_app {big a b : List Cond} (ha : GoodIn big a) (hb : GoodIn big b) : GoodIn big (a ++ b) := fun w h => (List.mem_append.mp h).elim (ha w) (hb w)
theorem goodIn_ca {big a b : List Cond} {c : Cond} (ha : GoodIn big (c :: a)) (hb : GoodIn big b) : GoodIn big (c :: (a ++ b)) := fun w h => (List.mem_cons.mp h).elim (fun e => ha w (List.mem_cons.mpr (Or.inl e))) (fun h => (List.mem_append.mp h).elim (fun h => ha w (List.mem_cons.mpr (Or.inr h))) (hb w))
theorem goodIn_sub {big ws : List Cond} (hm : ∀ w ∈ ws, w ∈ big) (h : ws.all goodWord = true) : GoodIn big ws := fun w hw => ⟨hm w hw, good_of_word (List.all_eq_true.mp h w hw)⟩
/-! ===== END ===== -/

/-! ===== BEGIN exceptions that leave a method, and their catching by the caller (launches without stack traces) ===== -/
section VXA
/-! The laws vx_back, vx_callV, vx_callS, vx_callSW, vx_throw0, vx_throwS follow proofs of the library, with one case more: JvmDerived/Free/Laws.lean (Back.of_free), Shelf42/LK1.lean (callV, callS), Shelf/KitTraced.lean (throwNew0V, throwNewS). -/
/-- where a method has thrown q: the class by its name, the cell, what was written, the world -/
def vx_T (XC : String → State → State → Prop) (st : State) (q : Addr) (t : State) (mc ms : Nat) (free : Addr → Prop) : Prop :=
  ∃ (E : String) (ce : Cell) (L : List Loc), XC E st t ∧ t.heap[q]? = some ce ∧ ce.vm = .none ∧ st.vm.findClass E = some ce.cls ∧ st.WarmedH t.vm ∧ st.sameButNew ({ t with vm := st.vm } : State) L mc ms ∧ ∀ z ∈ L, free z.base
def vx_Q (Qc : Array Value → State → Outcome → State → Prop) (XC : String → State → State → Prop) (mc ms : Nat) (free : Addr → Prop) : Array Value → State → Outcome → State → Prop := fun a st o t =>
  (Qc a st o t ∧ ∃ L, FrameEnd st o t L mc ms ∧ ∀ q ∈ L, free q.base) ∨ ∃ q, o = .threw q ∧ vx_T XC st q t mc ms free
/-- a callee that returns or throws -/
def vx_Met (l : Launch) (y : MethodName) (ws : List Cond) (rm : Room) (Pc : Array Value → State → Prop) (Qc : Array Value → State → Outcome → State → Prop) (XC : String → State → State → Prop) (mc ms : Nat) (free : Addr → Prop) : Prop :=
  MetFree l y (headSpec ws rm) Pc (fun _ _ _ _ _ => True) (vx_Q Qc XC mc ms free)
def vx_Post (XC : String → State → State → Prop) (mc ms : Nat) (free : Addr → Prop) : Pt → Array Value → Addr → Pt → Prop := fun A a q B =>
  ∃ (g : JFrame) (mk : MethodId) (t : State) (L : List Loc) (E : String) (ce : Cell), B.U.heap = t.heap ∧ B.U.vm = t.vm ∧ XC E (A.U.calling g mk a) t ∧ t.heap[q]? = some ce ∧ ce.vm = .none ∧ A.U.vm.findClass E = some ce.cls ∧ B.locs = A.locs ++ L ∧ (∀ z ∈ L, free z.base) ∧ B.cells = A.cells + mc ∧ B.slots = A.slots + ms
def vx_Back (l : Launch) (R : Room) (p : Program) (e : Env) (below : List Frame) (s : State) (sargs : Array Value) (y : MethodName) (len W9 : Nat)
    (Pre : Pt → Array Value → Prop) (Post : Pt → Array Value → Option Value → Pt → Prop) (PostX : Pt → Array Value → Addr → Pt → Prop) : Prop :=
  ∀ (m : MethodId) (meth : Method) (c : Code) (A : Pt) (g : JFrame) (ig : Instr) (mk : MethodId) (a : Array Value),
    Stand p l e R s m sargs below meth c A.U A.locs A.cells A.slots → g.method = m → g.locals.size = c.maxLocals → decode c.code g.pc = .ok (ig, len) →
    2 * g.monitorRoom + (g.stack.map fun v => v.category).sum ≤ W9 → A.U.methodNamed? y = some mk → Pre A a →
    (∃ (v : Option Value) (B : Pt), Stand p l e R s m sargs below meth c B.U B.locs B.cells B.slots ∧ Post A a v B ∧
      Steps p.tables e below (doInvoke e (A.U.setTop g) [] mk a).1 (B.U.setTop { g with pc := g.pc + len, stack := v.toList ++ g.stack })) ∨
    (∃ (q : Addr) (B : Pt), Stand p l e R s m sargs below meth c B.U B.locs B.cells B.slots ∧ PostX A a q B ∧
      Steps p.tables e below (doInvoke e (A.U.setTop g) [] mk a).1 ((B.U.setTop g).pushFrame (.throwing q)))
section Payer
variable {l : Launch} {R : Room} {p : Program} {e : Env} {below : List Frame} {s : State} {sargs : Array Value} {y : MethodName} {len W9 : Nat}
theorem vx_back {ws : List Cond} {rm : Room} {Pc : Array Value → State → Prop} {Qc : Array Value → State → Outcome → State → Prop} {XC : String → State → State → Prop} {mc ms : Nat} {free : Addr → Prop} {bytes : ByteArray} {maxL : Nat} {ret : Option FieldType}
    (hM : vx_Met l y ws rm Pc Qc XC mc ms free) (hblind : FrameBlind Pc) (hrc : rm.cells = mc) (hrs : rm.slots = ms)
    (hframes : rm.frames + 1 ≤ R.frames) (hlocals : W9 + (maxL + 11) + rm.locals ≤ R.locals)
    (hws : ∀ w ∈ ws, ∀ a' U, s.WarmedH U.vm → w.before a' U = true) (hcode : Cond.code y bytes maxL ret ∈ ws) (hinit : ∀ a' U, s.WarmedH U.vm → (Cond.initialized y.cls).before a' U = true) :
    vx_Back l R p e below s sargs y len W9 (PreOf R mc ms Pc) (PostOf Qc mc ms free) (vx_Post XC mc ms free) := by
  intro m meth c A g ig mk a X hg hsize hdg hW hn hp
  have h1 : (headSpec ws rm).pre.before a A.U = true := atoms_intro fun w hw => hws w hw _ _ X.warmed
  have h2 : (Cond.code y bytes maxL ret).before a A.U = true := hws _ hcode _ _ X.warmed
  have h3 : (Cond.initialized y.cls).before a A.U = true := hinit _ _ X.warmed
  have h4 : A.cells + (headSpec ws rm).room.cells ≤ R.cells := by rw [show (headSpec ws rm).room.cells = mc from hrc]; exact hp.1
  have h5 : A.slots + (headSpec ws rm).room.slots ≤ R.slots := by rw [show (headSpec ws rm).room.slots = ms from hrs]; exact hp.2.1
  have hPc : Pc a (A.U.calling g mk a) := hblind _ _ _ _ hp.2.2
  obtain ⟨U, Ls, c0, s0⟩ := A
  dsimp only [Pt.U, Pt.locs, Pt.cells, Pt.slots] at h1 h2 h3 h4 h5 X hn hPc ⊢
  obtain ⟨methY, cY, hmY, hcY, -, hlY, -, -, -, -⟩ := Cond.code_spec hn h2
  obtain ⟨kY, hkY, -⟩ := className_of_methodNamed hn
  have hinitY : kY.init = .initialized := Cond.initialized_spec (findClass_of_methodNamed hn) hkY h3
  have h : At U g.method c below := by rw [hg]; exact X.here
  have hlocals9 : W9 + (maxL + 11) + (headSpec ws rm).room.locals ≤ R.locals := hlocals
  have happ : (headSpec ws rm).appliesLoose y e.platform (U.calling g mk a) = true :=
    Spec.appliesLoose_calling (g := g) h hdg hn hkY hinitY
      (X.room_calling (g := g) (R' := (headSpec ws rm).room) hsize hmY hcY hframes (by rw [hlY]; omega) h4 h5) h1
  obtain ⟨mid, hmid⟩ := h.above
  have hfr : (U.setTop g).frames = (.java g :: mid) ++ below := by rw [State.frames_setTop' g h.top, hmid]; rfl
  obtain ⟨o, s₂, hsteps, -, hend, hq⟩ := Steps.callFree hM p X.admits X.cas X.clock (acts := []) hfr happ hPc trivial
  have hq' : vx_Q Qc XC mc ms free a (U.calling g mk a) o s₂ := hq
  rw [State.frames_setTop' g h.top] at hend
  obtain ⟨g₀, hg0⟩ := Option.isSome_iff_exists.mp h.top
  obtain ⟨r, hr⟩ := State.topJava?_eq_some.mp hg0
  have hr' : (({ U with heap := s₂.heap, slotsUsed := s₂.slotsUsed } : State).setVm s₂.vm).frames = .java g₀ :: r := hr
  rcases hq' with ⟨hqc, L, hfe, hL⟩ | ⟨q, rfl, E, ce, L, hx, hce, hcv, hcl, hW₂, hsm, hL⟩
  · obtain ⟨⟨v, rfl⟩, hW₂, e2, q2, q3, q4, q5, q6⟩ := id hfe
    have e3 : s₂ = ({ (U.calling g mk a).setFrames s₂.frames with heap := s₂.heap, slotsUsed := s₂.slotsUsed } : State).setVm s₂.vm := by
      have : s₂ = ({ s₂ with vm := (U.calling g mk a).vm } : State).setVm s₂.vm := rfl
      rw [e2] at this
      exact this
    obtain ⟨c₂, i₂, len₂, hc₂, hd₂, hf₂⟩ := hend
    have hW' : U.WarmedH s₂.vm := hW₂
    have hcc : c₂ = c := by
      have h1 : s₂.code? g.method = U.code? g.method := by
        rw [State.code?_eq, State.code?_eq, hW'.alike.method?]
      exact Option.some.inj (hc₂.symm.trans (h1.trans h.code))
    subst hcc
    have hlen : len₂ = len := by rw [hdg] at hd₂; cases hd₂; rfl
    subst hlen
    have hs₂ : s₂ = (({ U with heap := s₂.heap, slotsUsed := s₂.slotsUsed } : State).setVm s₂.vm).setTop { g with pc := g.pc + len₂, stack := v.toList ++ g.stack } := by
      refine e3.trans ?_
      rw [hf₂, State.calling_eq h.top, State.setFrames_setFrames, State.setTop_of_frames _ hr', hr]
      rfl
    have hsame : U.sameButNew ({ U with heap := s₂.heap, slotsUsed := s₂.slotsUsed } : State) L mc ms := by
      refine ⟨?_, q2, q3, q4, q5, q6⟩
      obtain ⟨t, ht, -⟩ := State.frames_cons hr
      show ({ U with heap := s₂.heap, slotsUsed := s₂.slotsUsed } : State) = { U.setFrames U.frames with heap := s₂.heap, slotsUsed := s₂.slotsUsed }
      rw [State.setFrames_self ht]
    subst hg
    refine Or.inl ⟨v, ⟨(({ U with heap := s₂.heap, slotsUsed := s₂.slotsUsed } : State).setVm s₂.vm), Ls ++ L, c0 + mc, s0 + ms⟩,
      ⟨X.admits, X.cas, X.clock, X.frames, X.room, X.hears, X.method, X.code, (X.here.setHeapUsed s₂.heap s₂.slotsUsed).setVm hW'.alike, X.tail, State.WarmedH.trans X.warmed hW', X.limits, X.bytes, X.same.trans (hsame.setVm s.vm)⟩,
      ⟨g, mk, s₂, L, rfl, rfl, hqc, rfl, hL, rfl, rfl⟩, ?_⟩
    show Steps p.tables e below _ ((({ U with heap := s₂.heap, slotsUsed := s₂.slotsUsed } : State).setVm s₂.vm).setTop { g with pc := g.pc + len₂, stack := v.toList ++ g.stack })
    rw [← hs₂]
    exact hsteps
  · obtain ⟨e2, q2, q3, q4, q5, q6⟩ := id hsm
    have e3 : s₂ = ({ (U.calling g mk a).setFrames s₂.frames with heap := s₂.heap, slotsUsed := s₂.slotsUsed } : State).setVm s₂.vm := by
      have : s₂ = ({ s₂ with vm := (U.calling g mk a).vm } : State).setVm s₂.vm := rfl
      rw [e2] at this
      exact this
    have hf₂ : s₂.frames = .throwing q :: .java g :: U.frames.tail := hend
    have hW' : U.WarmedH s₂.vm := hW₂
    have hs₂ : s₂ = ((({ U with heap := s₂.heap, slotsUsed := s₂.slotsUsed } : State).setVm s₂.vm).setTop g).pushFrame (.throwing q) := by
      refine e3.trans ?_
      rw [hf₂, State.calling_eq h.top, State.setFrames_setFrames, State.pushFrame, State.frames_setTop _ hr', State.setTop_of_frames _ hr', State.setFrames_setFrames, hr]
      rfl
    have hsame : U.sameButNew ({ U with heap := s₂.heap, slotsUsed := s₂.slotsUsed } : State) L mc ms := by
      refine ⟨?_, q2, q3, q4, q5, q6⟩
      obtain ⟨t, ht, -⟩ := State.frames_cons hr
      show ({ U with heap := s₂.heap, slotsUsed := s₂.slotsUsed } : State) = { U.setFrames U.frames with heap := s₂.heap, slotsUsed := s₂.slotsUsed }
      rw [State.setFrames_self ht]
    subst hg
    refine Or.inr ⟨q, ⟨(({ U with heap := s₂.heap, slotsUsed := s₂.slotsUsed } : State).setVm s₂.vm), Ls ++ L, c0 + mc, s0 + ms⟩,
      ⟨X.admits, X.cas, X.clock, X.frames, X.room, X.hears, X.method, X.code, (X.here.setHeapUsed s₂.heap s₂.slotsUsed).setVm hW'.alike, X.tail, State.WarmedH.trans X.warmed hW', X.limits, X.bytes, X.same.trans (hsame.setVm s.vm)⟩,
      ⟨g, mk, s₂, L, E, ce, rfl, rfl, hx, hce, hcv, hcl, rfl, hL, rfl, rfl⟩, ?_⟩
    show Steps p.tables e below _ (((({ U with heap := s₂.heap, slotsUsed := s₂.slotsUsed } : State).setVm s₂.vm).setTop g).pushFrame (.throwing q))
    rw [← hs₂]
    exact hsteps
end Payer
section Calls
variable {p : Program} {l : Launch} {e : Env} {R : Room} {s : State} {m : MethodId} {args : Array Value} {below : List Frame} {meth : Method} {c : Code} {T : State} {locs : List Loc} {cells slots : Nat}
theorem vx_callV (X : Stand p l e R s m args below meth c T locs cells slots) (hexec : p.tables.exec = Jvm.exec) {own C : String} {index : Nat} {y : MethodName} {bytes : ByteArray} {maxL : Nat} {ret : Option FieldType}
    (hown : s.vm.findClass own = some m.cls) (hlink : (Cond.methodLink own index y).before args s = true) (hinst : (Cond.instanceMethod y).before args s = true) (hsel : (Cond.selects C y y).before args s = true)
    (hcode : (Cond.code y bytes maxL ret).before args s = true) (hy : y.cls ≠ "java/lang/invoke/MethodHandle" ∧ y.cls ≠ "java/lang/invoke/VarHandle")
    {W9 : Nat} {Pre : Pt → Array Value → Prop} {Post : Pt → Array Value → Option Value → Pt → Prop} {PostX : Pt → Array Value → Addr → Pt → Prop} (hK : vx_Back l R p e below s args y 3 W9 Pre Post PostX)
    {b : Addr} {cellB : Cell} (hcell : T.heap[b]? = some cellB) (hobj : cellB.vm.isStatics = false) (hcls : s.vm.findClass C = some cellB.cls)
    {g : JFrame} (hg : g.method = m) (hsize : g.locals.size = c.maxLocals) {argsL rest : List Value} (hlen : ∀ sig, parseMethodDescriptor y.desc = some sig → argsL.length = sig.parameters.length)
    (hstack : g.stack = argsL.reverse ++ .ref b :: rest) (hW : 2 * g.monitorRoom + (rest.map fun v => v.category).sum ≤ W9) (hdg : decode c.code g.pc = .ok (.invokevirtual index, 3))
    (hpre : ∀ vm₁, s.WarmedH vm₁ → Pre ⟨T.setVm vm₁, locs, cells, slots⟩ (Value.ref b :: argsL).toArray) :
    (∃ (v : Option Value) (vm₁ : Vm) (B : Pt), s.WarmedH vm₁ ∧ Stand p l e R s m args below meth c B.U B.locs B.cells B.slots ∧ Post ⟨T.setVm vm₁, locs, cells, slots⟩ (Value.ref b :: argsL).toArray v B ∧
      ∀ target, Steps p.tables e below (B.U.setTop { g with pc := g.pc + 3, stack := v.toList ++ rest }) target → Steps p.tables e below (T.setTop g) target) ∨
    (∃ (q : Addr) (vm₁ : Vm) (B : Pt), s.WarmedH vm₁ ∧ Stand p l e R s m args below meth c B.U B.locs B.cells B.slots ∧ PostX ⟨T.setVm vm₁, locs, cells, slots⟩ (Value.ref b :: argsL).toArray q B ∧
      Steps p.tables e below (T.setTop g) ((B.U.setTop { g with stack := rest }).pushFrame (.throwing q))) := by
  obtain ⟨mk, methM, hnamed, hmethM, hstM, habM⟩ := Cond.instanceMethod_spec hinst
  obtain ⟨methM', cM, hmethM', -, -, -, -, -, -, hsigM⟩ := Cond.code_spec hnamed hcode
  cases hmethM.symm.trans hmethM'
  obtain ⟨c2, r2, m2, q1, q2, q3, q4, kP, hkP, hkPi⟩ := Cond.selects_spec hsel
  cases hcls.symm.trans q1
  cases (State.methodFound?_of_named hnamed hy).symm.trans q2
  cases hnamed.symm.trans q3
  have hselP : selectMethod e.platform s.vm cellB.cls mk = .method mk := by rw [Launch.admits_selectMethod X.admits]; exact q4
  obtain ⟨vm₁, X₁, hstep₁⟩ := X.invokevirtual hexec hown hlink hnamed hmethM hstM hkP hkPi hy (a := b) (cell := cellB) hcell
    (fun z h => by rw [h] at hobj; cases hobj) hselP hmethM habM hkP hkPi (g := g) hg (argsL := argsL) (rest := rest) (hlen _ hsigM) hstack hdg
  rcases hK m meth c ⟨T.setVm vm₁, locs, cells, slots⟩ { g with stack := rest } (.invokevirtual index) mk (Value.ref b :: argsL).toArray X₁ hg hsize hdg hW (X₁.named hnamed) (hpre vm₁ X₁.warmed) with ⟨v, B, X', hpost, hsteps⟩ | ⟨q, B, X', hpost, hsteps⟩
  · exact Or.inl ⟨v, vm₁, B, X₁.warmed, X', hpost, fun target h => hstep₁ _ fun acts => by rw [doInvoke_state]; exact hsteps.trans h⟩
  · exact Or.inr ⟨q, vm₁, B, X₁.warmed, X', hpost, hstep₁ _ fun acts => by rw [doInvoke_state]; exact hsteps⟩
theorem vx_callS (X : Stand p l e R s m args below meth c T locs cells slots) (hexec : p.tables.exec = Jvm.exec) {own : String} {index : Nat} {y : MethodName} {bytes : ByteArray} {maxL : Nat} {ret : Option FieldType}
    (hown : s.vm.findClass own = some m.cls) (hlink : (Cond.methodLink own index y).before args s = true) (hstat : (Cond.static y).before args s = true) (hinit : (Cond.initialized y.cls).before args s = true)
    (hcode : (Cond.code y bytes maxL ret).before args s = true) (hy : y.cls ≠ "java/lang/invoke/MethodHandle" ∧ y.cls ≠ "java/lang/invoke/VarHandle")
    {W9 : Nat} {Pre : Pt → Array Value → Prop} {Post : Pt → Array Value → Option Value → Pt → Prop} {PostX : Pt → Array Value → Addr → Pt → Prop} (hK : vx_Back l R p e below s args y 3 W9 Pre Post PostX)
    {g : JFrame} (hg : g.method = m) (hsize : g.locals.size = c.maxLocals) {argsL rest : List Value} (hlen : ∀ sig, parseMethodDescriptor y.desc = some sig → argsL.length = sig.parameters.length)
    (hstack : g.stack = argsL.reverse ++ rest) (hW : 2 * g.monitorRoom + (rest.map fun v => v.category).sum ≤ W9) (hdg : decode c.code g.pc = .ok (.invokestatic index, 3))
    (hpre : ∀ vm₁, s.WarmedH vm₁ → Pre ⟨T.setVm vm₁, locs, cells, slots⟩ argsL.toArray) :
    (∃ (v : Option Value) (vm₁ : Vm) (B : Pt), s.WarmedH vm₁ ∧ Stand p l e R s m args below meth c B.U B.locs B.cells B.slots ∧ Post ⟨T.setVm vm₁, locs, cells, slots⟩ argsL.toArray v B ∧
      ∀ target, Steps p.tables e below (B.U.setTop { g with pc := g.pc + 3, stack := v.toList ++ rest }) target → Steps p.tables e below (T.setTop g) target) ∨
    (∃ (q : Addr) (vm₁ : Vm) (B : Pt), s.WarmedH vm₁ ∧ Stand p l e R s m args below meth c B.U B.locs B.cells B.slots ∧ PostX ⟨T.setVm vm₁, locs, cells, slots⟩ argsL.toArray q B ∧
      Steps p.tables e below (T.setTop g) ((B.U.setTop { g with stack := rest }).pushFrame (.throwing q))) := by
  obtain ⟨mk, hnamed⟩ := Cond.code_named hcode
  obtain ⟨methM, cM, hmethM, -, -, -, -, -, -, hsigM⟩ := Cond.code_spec hnamed hcode
  have hstatic : methM.isStatic = true := Cond.static_spec hnamed hmethM hstat
  obtain ⟨kP, hkP, -⟩ := className_of_methodNamed hnamed
  have hinitP : kP.init = .initialized := Cond.initialized_spec (findClass_of_methodNamed hnamed) hkP hinit
  obtain ⟨vm₁, X₁, hstep₁⟩ := X.invokestatic hexec hown hlink hnamed hmethM hstatic hkP hinitP hy (g := g) hg (argsL := argsL) (rest := rest) (hlen _ hsigM) hstack hdg
  rcases hK m meth c ⟨T.setVm vm₁, locs, cells, slots⟩ { g with stack := rest } (.invokestatic index) mk argsL.toArray X₁ hg hsize hdg hW (X₁.named hnamed) (hpre vm₁ X₁.warmed) with ⟨v, B, X', hpost, hsteps⟩ | ⟨q, B, X', hpost, hsteps⟩
  · exact Or.inl ⟨v, vm₁, B, X₁.warmed, X', hpost, fun target h => hstep₁ _ fun acts => by rw [doInvoke_state]; exact hsteps.trans h⟩
  · exact Or.inr ⟨q, vm₁, B, X₁.warmed, X', hpost, hstep₁ _ fun acts => by rw [doInvoke_state]; exact hsteps⟩
end Calls
theorem vx_cls {s : State} {T : State} {vm₁ : Vm} {E : String} {k : ClassId} (hW : s.WarmedH vm₁) (h : (T.setVm vm₁).vm.findClass E = some k) : s.vm.findClass E = some k := by
  have h1 : vm₁.findClass E = some k := h
  rw [hW.alike.findClass] at h1
  exact h1
/-- the method's frame g, with q thrown over it -/
def vx_W (p : Program) (l : Launch) (e : Env) (R : Room) (s : State) (m : MethodId) (args : Array Value) (below : List Frame) (meth : Method) (c : Code) (H : Heap) (locs : List Loc) (cells slots : Nat) (Q : State → Prop) (g : JFrame) (q : Addr) : Prop :=
  ∀ T : State, T.heap = H → Stand p l e R s m args below meth c T locs cells slots → ∃ t, Steps p.tables e below ((T.setTop g).pushFrame (.throwing q)) t ∧ Q t
def vx_Run (p : Program) (l : Launch) (e : Env) (R : Room) (s : State) (m : MethodId) (args : Array Value) (below : List Frame) (meth : Method) (c : Code) (H : Heap) (locs : List Loc) (cells slots mc ms : Nat) (g : JFrame) (rest : List Value) (Qa : State → Outcome → State → Prop) (XC : String → State → State → Prop) (free : Addr → Prop) : Prop :=
  ∀ T : State, T.heap = H → Stand p l e R s m args below meth c T locs cells slots →
    (∃ (v : Option Value) (st₀ t T' : State) (L : List Loc), st₀.heap = H ∧ Stand p l e R s m args below meth c T' (locs ++ L) (cells + mc) (slots + ms) ∧ (∀ q ∈ L, free q.base) ∧ T'.heap = t.heap ∧ T'.vm = t.vm ∧ Qa st₀ (.returned v) t ∧
      Goes p e below T g T' { g with pc := g.pc + 3, stack := v.toList ++ rest }) ∨
    (∃ (q : Addr) (st₀ t T' : State) (L : List Loc) (E : String) (ce : Cell), st₀.heap = H ∧ Stand p l e R s m args below meth c T' (locs ++ L) (cells + mc) (slots + ms) ∧ (∀ z ∈ L, free z.base) ∧ T'.heap = t.heap ∧ T'.vm = t.vm ∧ XC E st₀ t ∧ t.heap[q]? = some ce ∧ ce.vm = .none ∧ s.vm.findClass E = some ce.cls ∧
      Steps p.tables e below (T.setTop g) ((T'.setTop { g with stack := rest }).pushFrame (.throwing q)))
def vx_X {S : Type} (px : S → Prop) (B : String → S → State → Prop) (A : Nat → Prop) : String → State → State → Prop := fun E st t => ∃ u : S, px u ∧ B E u t ∧ va_F A st t
section Runs
variable {p : Program} {l : Launch} {e : Env} {R : Room} {s : State} {m : MethodId} {args : Array Value} {below : List Frame} {meth : Method} {c : Code} {H : Heap} {locs : List Loc} {cells slots : Nat}
variable {y : MethodName} {bytes cc : ByteArray} {maxL nL mc ms n index : Nat} {ret : Option FieldType} {ws : List Cond} {rm : Room} {Pc : Array Value → State → Prop} {Qc : Array Value → State → Outcome → State → Prop} {XC : String → State → State → Prop} {free : Addr → Prop} {Ts : List Cond} {own C : String} {b : Addr} {As rest : List Value} {g : JFrame}
theorem vx_callBack (cb : CallB R s args own index y bytes maxL ret ws rm mc ms n) (hM : vx_Met l y ws rm Pc Qc XC mc ms free) (hbl : FrameBlind Pc) : vx_Back l R p e below s args y 3 8 (PreOf R mc ms Pc) (PostOf Qc mc ms free) (vx_Post XC mc ms free) := by
  obtain ⟨hrc, hrs, hfr, hlo, hws, hcw, -, hini, -⟩ := cb
  exact vx_back (bytes := bytes) (maxL := maxL) (ret := ret) hM hbl hrc hrs hfr hlo hws hcw (fun a' U hW => word_at hW (Or.inl (by first | rfl | simp [Cond.onTables, Cond.keeps, Cond.steady])) hini)
theorem vx_runV (S : CallFix p m c cc nL s args Ts own) (hM : vx_Met l y ws rm Pc Qc XC mc ms free) (cw : CallW R s args own C index y bytes maxL ret ws rm mc ms n) (hp : PreV s H C b Pc As)
    (hg : g.method = m) (hn : As.length = n) (hsize : g.locals.size = nL) (hstack : g.stack = As.reverse ++ .ref b :: rest) (hW : 2 * g.monitorRoom + (rest.map fun v => v.category).sum ≤ 8) (hdg : decode cc g.pc = .ok (.invokevirtual index, 3)) (hf : cells + mc ≤ R.cells ∧ slots + ms ≤ R.slots) :
    vx_Run p l e R s m args below meth c H locs cells slots mc ms g rest (Qc (Value.ref b :: As).toArray) XC free := by
  have hK : vx_Back l R p e below s args y 3 8 (PreOf R mc ms Pc) (PostOf Qc mc ms free) (vx_Post XC mc ms free) := vx_callBack cw.1 hM hp.1
  obtain ⟨⟨-, -, -, -, -, -, hcode, -, hy, hlen, hl⟩, hin, hse⟩ := cw
  obtain ⟨hx, hb, hml, ho, -⟩ := S
  obtain ⟨-, ⟨cellB, hcB, hoB, hclB⟩, hPc⟩ := hp
  intro T hT X
  rcases vx_callV X hx (C := C) (bytes := bytes) (maxL := maxL) (ret := ret) ho hl hin hse hcode hy hK (by rw [hT]; exact hcB) hoB hclB hg (hsize.trans hml.symm) (argsL := As) (rest := rest) (fun sig h => hn.trans (hlen sig h)) hstack hW (by rw [hb]; exact hdg)
    (fun vm₁ hW₁ => ⟨hf.1, hf.2, hPc (T.setVm vm₁) hT hW₁⟩) with ⟨v, vm₁, ⟨U', l2, c2, s2⟩, hW₁, X', ⟨g', mk, t, L, e1, e2, hq, h1, hL, h2, h3⟩, st⟩ | ⟨q, vm₁, ⟨U', l2, c2, s2⟩, hW₁, X', ⟨g', mk, t, L, E, ce, e1, e2, hq, hce, hcv, hcl, h1, hL, h2, h3⟩, st⟩
  · dsimp only [Pt.U, Pt.locs, Pt.cells, Pt.slots] at X' e1 e2 h1 h2 h3 st
    subst h1; subst h2; subst h3
    exact Or.inl ⟨v, (T.setVm vm₁).calling g' mk (Value.ref b :: As).toArray, t, U', L, hT, X', hL, e1, e2, hq, st⟩
  · dsimp only [Pt.U, Pt.locs, Pt.cells, Pt.slots] at X' e1 e2 h1 h2 h3 st hcl
    subst h1; subst h2; subst h3
    exact Or.inr ⟨q, (T.setVm vm₁).calling g' mk (Value.ref b :: As).toArray, t, U', L, E, ce, hT, X', hL, e1, e2, hq, hce, hcv, vx_cls hW₁ hcl, st⟩
theorem vx_runS (S : CallFix p m c cc nL s args Ts own) (hM : vx_Met l y ws rm Pc Qc XC mc ms free) (cw : CallB R s args own index y bytes maxL ret ws rm mc ms n ∧ (Cond.static y).before args s = true) (hp : PreS s H Pc As)
    (hg : g.method = m) (hn : As.length = n) (hsize : g.locals.size = nL) (hstack : g.stack = As.reverse ++ rest) (hW : 2 * g.monitorRoom + (rest.map fun v => v.category).sum ≤ 8) (hdg : decode cc g.pc = .ok (.invokestatic index, 3)) (hf : cells + mc ≤ R.cells ∧ slots + ms ≤ R.slots) :
    vx_Run p l e R s m args below meth c H locs cells slots mc ms g rest (Qc As.toArray) XC free := by
  have hK : vx_Back l R p e below s args y 3 8 (PreOf R mc ms Pc) (PostOf Qc mc ms free) (vx_Post XC mc ms free) := vx_callBack cw.1 hM hp.1
  obtain ⟨⟨-, -, -, -, -, -, hcode, hini, hy, hlen, hl⟩, hstt⟩ := cw
  obtain ⟨hx, hb, hml, ho, -⟩ := S
  intro T hT X
  rcases vx_callS X hx (bytes := bytes) (maxL := maxL) (ret := ret) ho hl hstt hini hcode hy hK hg (hsize.trans hml.symm) (argsL := As) (rest := rest) (fun sig h => hn.trans (hlen sig h)) hstack hW (by rw [hb]; exact hdg)
    (fun vm₁ hW₁ => ⟨hf.1, hf.2, hp.2 (T.setVm vm₁) hT hW₁⟩) with ⟨v, vm₁, ⟨U', l2, c2, s2⟩, hW₁, X', ⟨g', mk, t, L, e1, e2, hq, h1, hL, h2, h3⟩, st⟩ | ⟨q, vm₁, ⟨U', l2, c2, s2⟩, hW₁, X', ⟨g', mk, t, L, E, ce, e1, e2, hq, hce, hcv, hcl, h1, hL, h2, h3⟩, st⟩
  · dsimp only [Pt.U, Pt.locs, Pt.cells, Pt.slots] at X' e1 e2 h1 h2 h3 st
    subst h1; subst h2; subst h3
    exact Or.inl ⟨v, (T.setVm vm₁).calling g' mk As.toArray, t, U', L, hT, X', hL, e1, e2, hq, st⟩
  · dsimp only [Pt.U, Pt.locs, Pt.cells, Pt.slots] at X' e1 e2 h1 h2 h3 st hcl
    subst h1; subst h2; subst h3
    exact Or.inr ⟨q, (T.setVm vm₁).calling g' mk As.toArray, t, U', L, E, ce, hT, X', hL, e1, e2, hq, hce, hcv, vx_cls hW₁ hcl, st⟩
end Runs
section Rows
variable {p : Program} {l : Launch} {e : Env} {R : Room} {s : State} {m : MethodId} {args : Array Value} {below : List Frame} {meth : Method} {c : Code} {H : Heap} {locs : List Loc} {cells slots : Nat} {Q : State → Prop}
variable {mc ms : Nat} {free : Addr → Prop} {A0 A1 : Nat → Prop} {H0 : Heap} {a : Array Value} {pc : Nat} {ls : Array Slot} {st0 rest : List Value}
theorem vx_keep {st₀ t T' : State} {L : List Loc} (h0 : st₀.heap = H) (e1 : T'.heap = t.heap) (hS : va_S A0 H0 H locs) (hA : ∀ q, q < H.size → A1 q → A0 q) (hf : ∀ q, free q → A0 q) (hL : ∀ q ∈ L, free q.base) (hF : va_F A1 st₀ t) :
    H.size ≤ T'.heap.size ∧ (∀ q : Nat, q < H.size → ¬ A1 q → T'.heap[q]? = H[q]?) ∧ va_S A0 H0 T'.heap (locs ++ L) := by
  obtain ⟨hz, hk⟩ := hF
  rw [h0] at hz hk
  exact ⟨by rw [e1]; exact hz, fun q h1 h2 => by rw [e1]; exact hk q h1 h2,
    ⟨Nat.le_trans hS.1 (by rw [e1]; exact hz), fun q h1 h2 => by rw [e1, hk q (Nat.lt_of_lt_of_le h1 hS.1) (fun z => h2 (hA q (Nat.lt_of_lt_of_le h1 hS.1) z))]; exact hS.2.1 q h1 h2, fun q hq => by
      rcases List.mem_append.mp hq with h | h
      · exact hS.2.2 q h
      · exact hf _ (hL q h)⟩⟩
theorem vx_calli {S SX : Type} {post : Int32 → S → Prop} {px : SX → Prop} {B : S → State → Prop} {BX : String → SX → State → Prop} {AX : Nat → Prop} (hr : vx_Run p l e R s m args below meth c H locs cells slots mc ms (F0 m pc ls st0) rest (va_Qi post B A1 a) (vx_X px BX AX) free) (hS : va_S A0 H0 H locs) (hA : ∀ q, q < H.size → A1 q → A0 q) (hf : ∀ q, free q → A0 q) (hAX : ∀ q, q < H.size → AX q → A0 q)
    (kx : ∀ (E : String) (ce : Cell) (q9 : Addr) (u : SX) (t : State) (H1 : Heap) (locs1 : List Loc), t.heap = H1 → s.vm.Alike t.vm → px u → BX E u t → H.size ≤ H1.size → (∀ q : Nat, q < H.size → ¬ AX q → H1[q]? = H[q]?) → va_S A0 H0 H1 locs1 → H1[q9]? = some ce → ce.vm = .none → s.vm.findClass E = some ce.cls → vx_W p l e R s m args below meth c H1 locs1 (cells + mc) (slots + ms) Q (F0 m pc ls rest) q9)
    (kk : ∀ (r : Int32) (u : S) (t : State) (H1 : Heap) (locs1 : List Loc), t.heap = H1 → s.vm.Alike t.vm → post r u → B u t → H.size ≤ H1.size → (∀ q : Nat, q < H.size → ¬ A1 q → H1[q]? = H[q]?) → va_S A0 H0 H1 locs1 → W p l e R s m args below meth c H1 locs1 (cells + mc) (slots + ms) Q (F0 m (pc + 3) ls (.int r :: rest))) : W p l e R s m args below meth c H locs cells slots Q (F0 m pc ls st0) := by
  intro T hT X
  rcases hr T hT X with ⟨v, st₀, t, T', L, h0, X', hL, e1, e2, ⟨⟨r, u, hv, hp, hb⟩, hF⟩, st⟩ | ⟨q, st₀, t, T', L, E, ce, h0, X', hL, e1, e2, ⟨u, hp, hb, hF⟩, hce, hcv, hcl, st⟩
  · cases hv
    obtain ⟨k1, k2, k3⟩ := vx_keep h0 e1 hS hA hf hL hF
    obtain ⟨t2, a1, b1⟩ := kk r u t T'.heap (locs ++ L) e1.symm (by rw [← e2]; exact X'.warmed.alike) hp hb k1 k2 k3 T' rfl X'
    exact ⟨t2, st t2 a1, b1⟩
  · obtain ⟨k1, k2, k3⟩ := vx_keep h0 e1 hS hAX hf hL hF
    obtain ⟨t2, a1, b1⟩ := kx E ce q u t T'.heap (locs ++ L) e1.symm (by rw [← e2]; exact X'.warmed.alike) hp hb k1 k2 k3 (by rw [e1]; exact hce) hcv hcl T' rfl X'
    exact ⟨t2, st.trans a1, b1⟩
theorem vx_calll {S SX : Type} {post : Int64 → S → Prop} {px : SX → Prop} {B : S → State → Prop} {BX : String → SX → State → Prop} {AX : Nat → Prop} (hr : vx_Run p l e R s m args below meth c H locs cells slots mc ms (F0 m pc ls st0) rest (va_Ql post B A1 a) (vx_X px BX AX) free) (hS : va_S A0 H0 H locs) (hA : ∀ q, q < H.size → A1 q → A0 q) (hf : ∀ q, free q → A0 q) (hAX : ∀ q, q < H.size → AX q → A0 q)
    (kx : ∀ (E : String) (ce : Cell) (q9 : Addr) (u : SX) (t : State) (H1 : Heap) (locs1 : List Loc), t.heap = H1 → s.vm.Alike t.vm → px u → BX E u t → H.size ≤ H1.size → (∀ q : Nat, q < H.size → ¬ AX q → H1[q]? = H[q]?) → va_S A0 H0 H1 locs1 → H1[q9]? = some ce → ce.vm = .none → s.vm.findClass E = some ce.cls → vx_W p l e R s m args below meth c H1 locs1 (cells + mc) (slots + ms) Q (F0 m pc ls rest) q9)
    (kk : ∀ (r : Int64) (u : S) (t : State) (H1 : Heap) (locs1 : List Loc), t.heap = H1 → s.vm.Alike t.vm → post r u → B u t → H.size ≤ H1.size → (∀ q : Nat, q < H.size → ¬ A1 q → H1[q]? = H[q]?) → va_S A0 H0 H1 locs1 → W p l e R s m args below meth c H1 locs1 (cells + mc) (slots + ms) Q (F0 m (pc + 3) ls (.long r :: rest))) : W p l e R s m args below meth c H locs cells slots Q (F0 m pc ls st0) := by
  intro T hT X
  rcases hr T hT X with ⟨v, st₀, t, T', L, h0, X', hL, e1, e2, ⟨⟨r, u, hv, hp, hb⟩, hF⟩, st⟩ | ⟨q, st₀, t, T', L, E, ce, h0, X', hL, e1, e2, ⟨u, hp, hb, hF⟩, hce, hcv, hcl, st⟩
  · cases hv
    obtain ⟨k1, k2, k3⟩ := vx_keep h0 e1 hS hA hf hL hF
    obtain ⟨t2, a1, b1⟩ := kk r u t T'.heap (locs ++ L) e1.symm (by rw [← e2]; exact X'.warmed.alike) hp hb k1 k2 k3 T' rfl X'
    exact ⟨t2, st t2 a1, b1⟩
  · obtain ⟨k1, k2, k3⟩ := vx_keep h0 e1 hS hAX hf hL hF
    obtain ⟨t2, a1, b1⟩ := kx E ce q u t T'.heap (locs ++ L) e1.symm (by rw [← e2]; exact X'.warmed.alike) hp hb k1 k2 k3 (by rw [e1]; exact hce) hcv hcl T' rfl X'
    exact ⟨t2, st.trans a1, b1⟩
theorem vx_callf {S SX : Type} {post : UInt32 → S → Prop} {px : SX → Prop} {B : S → State → Prop} {BX : String → SX → State → Prop} {AX : Nat → Prop} (hr : vx_Run p l e R s m args below meth c H locs cells slots mc ms (F0 m pc ls st0) rest (va_Qf post B A1 a) (vx_X px BX AX) free) (hS : va_S A0 H0 H locs) (hA : ∀ q, q < H.size → A1 q → A0 q) (hf : ∀ q, free q → A0 q) (hAX : ∀ q, q < H.size → AX q → A0 q)
    (kx : ∀ (E : String) (ce : Cell) (q9 : Addr) (u : SX) (t : State) (H1 : Heap) (locs1 : List Loc), t.heap = H1 → s.vm.Alike t.vm → px u → BX E u t → H.size ≤ H1.size → (∀ q : Nat, q < H.size → ¬ AX q → H1[q]? = H[q]?) → va_S A0 H0 H1 locs1 → H1[q9]? = some ce → ce.vm = .none → s.vm.findClass E = some ce.cls → vx_W p l e R s m args below meth c H1 locs1 (cells + mc) (slots + ms) Q (F0 m pc ls rest) q9)
    (kk : ∀ (r : UInt32) (u : S) (t : State) (H1 : Heap) (locs1 : List Loc), t.heap = H1 → s.vm.Alike t.vm → post r u → B u t → H.size ≤ H1.size → (∀ q : Nat, q < H.size → ¬ A1 q → H1[q]? = H[q]?) → va_S A0 H0 H1 locs1 → W p l e R s m args below meth c H1 locs1 (cells + mc) (slots + ms) Q (F0 m (pc + 3) ls (.float r :: rest))) : W p l e R s m args below meth c H locs cells slots Q (F0 m pc ls st0) := by
  intro T hT X
  rcases hr T hT X with ⟨v, st₀, t, T', L, h0, X', hL, e1, e2, ⟨⟨r, u, hv, hp, hb⟩, hF⟩, st⟩ | ⟨q, st₀, t, T', L, E, ce, h0, X', hL, e1, e2, ⟨u, hp, hb, hF⟩, hce, hcv, hcl, st⟩
  · cases hv
    obtain ⟨k1, k2, k3⟩ := vx_keep h0 e1 hS hA hf hL hF
    obtain ⟨t2, a1, b1⟩ := kk r u t T'.heap (locs ++ L) e1.symm (by rw [← e2]; exact X'.warmed.alike) hp hb k1 k2 k3 T' rfl X'
    exact ⟨t2, st t2 a1, b1⟩
  · obtain ⟨k1, k2, k3⟩ := vx_keep h0 e1 hS hAX hf hL hF
    obtain ⟨t2, a1, b1⟩ := kx E ce q u t T'.heap (locs ++ L) e1.symm (by rw [← e2]; exact X'.warmed.alike) hp hb k1 k2 k3 (by rw [e1]; exact hce) hcv hcl T' rfl X'
    exact ⟨t2, st.trans a1, b1⟩
theorem vx_calld {S SX : Type} {post : UInt64 → S → Prop} {px : SX → Prop} {B : S → State → Prop} {BX : String → SX → State → Prop} {AX : Nat → Prop} (hr : vx_Run p l e R s m args below meth c H locs cells slots mc ms (F0 m pc ls st0) rest (va_Qd post B A1 a) (vx_X px BX AX) free) (hS : va_S A0 H0 H locs) (hA : ∀ q, q < H.size → A1 q → A0 q) (hf : ∀ q, free q → A0 q) (hAX : ∀ q, q < H.size → AX q → A0 q)
    (kx : ∀ (E : String) (ce : Cell) (q9 : Addr) (u : SX) (t : State) (H1 : Heap) (locs1 : List Loc), t.heap = H1 → s.vm.Alike t.vm → px u → BX E u t → H.size ≤ H1.size → (∀ q : Nat, q < H.size → ¬ AX q → H1[q]? = H[q]?) → va_S A0 H0 H1 locs1 → H1[q9]? = some ce → ce.vm = .none → s.vm.findClass E = some ce.cls → vx_W p l e R s m args below meth c H1 locs1 (cells + mc) (slots + ms) Q (F0 m pc ls rest) q9)
    (kk : ∀ (r : UInt64) (u : S) (t : State) (H1 : Heap) (locs1 : List Loc), t.heap = H1 → s.vm.Alike t.vm → post r u → B u t → H.size ≤ H1.size → (∀ q : Nat, q < H.size → ¬ A1 q → H1[q]? = H[q]?) → va_S A0 H0 H1 locs1 → W p l e R s m args below meth c H1 locs1 (cells + mc) (slots + ms) Q (F0 m (pc + 3) ls (.double r :: rest))) : W p l e R s m args below meth c H locs cells slots Q (F0 m pc ls st0) := by
  intro T hT X
  rcases hr T hT X with ⟨v, st₀, t, T', L, h0, X', hL, e1, e2, ⟨⟨r, u, hv, hp, hb⟩, hF⟩, st⟩ | ⟨q, st₀, t, T', L, E, ce, h0, X', hL, e1, e2, ⟨u, hp, hb, hF⟩, hce, hcv, hcl, st⟩
  · cases hv
    obtain ⟨k1, k2, k3⟩ := vx_keep h0 e1 hS hA hf hL hF
    obtain ⟨t2, a1, b1⟩ := kk r u t T'.heap (locs ++ L) e1.symm (by rw [← e2]; exact X'.warmed.alike) hp hb k1 k2 k3 T' rfl X'
    exact ⟨t2, st t2 a1, b1⟩
  · obtain ⟨k1, k2, k3⟩ := vx_keep h0 e1 hS hAX hf hL hF
    obtain ⟨t2, a1, b1⟩ := kx E ce q u t T'.heap (locs ++ L) e1.symm (by rw [← e2]; exact X'.warmed.alike) hp hb k1 k2 k3 (by rw [e1]; exact hce) hcv hcl T' rfl X'
    exact ⟨t2, st.trans a1, b1⟩
theorem vx_callv {S SX : Type} {post : S → Prop} {px : SX → Prop} {B : S → State → Prop} {BX : String → SX → State → Prop} {AX : Nat → Prop} (hr : vx_Run p l e R s m args below meth c H locs cells slots mc ms (F0 m pc ls st0) rest (va_Qv post B A1 a) (vx_X px BX AX) free) (hS : va_S A0 H0 H locs) (hA : ∀ q, q < H.size → A1 q → A0 q) (hf : ∀ q, free q → A0 q) (hAX : ∀ q, q < H.size → AX q → A0 q)
    (kx : ∀ (E : String) (ce : Cell) (q9 : Addr) (u : SX) (t : State) (H1 : Heap) (locs1 : List Loc), t.heap = H1 → s.vm.Alike t.vm → px u → BX E u t → H.size ≤ H1.size → (∀ q : Nat, q < H.size → ¬ AX q → H1[q]? = H[q]?) → va_S A0 H0 H1 locs1 → H1[q9]? = some ce → ce.vm = .none → s.vm.findClass E = some ce.cls → vx_W p l e R s m args below meth c H1 locs1 (cells + mc) (slots + ms) Q (F0 m pc ls rest) q9)
    (kk : ∀ (u : S) (t : State) (H1 : Heap) (locs1 : List Loc), t.heap = H1 → s.vm.Alike t.vm → post u → B u t → H.size ≤ H1.size → (∀ q : Nat, q < H.size → ¬ A1 q → H1[q]? = H[q]?) → va_S A0 H0 H1 locs1 → W p l e R s m args below meth c H1 locs1 (cells + mc) (slots + ms) Q (F0 m (pc + 3) ls (rest))) : W p l e R s m args below meth c H locs cells slots Q (F0 m pc ls st0) := by
  intro T hT X
  rcases hr T hT X with ⟨v, st₀, t, T', L, h0, X', hL, e1, e2, ⟨⟨u, hv, hp, hb⟩, hF⟩, st⟩ | ⟨q, st₀, t, T', L, E, ce, h0, X', hL, e1, e2, ⟨u, hp, hb, hF⟩, hce, hcv, hcl, st⟩
  · cases hv
    obtain ⟨k1, k2, k3⟩ := vx_keep h0 e1 hS hA hf hL hF
    obtain ⟨t2, a1, b1⟩ := kk u t T'.heap (locs ++ L) e1.symm (by rw [← e2]; exact X'.warmed.alike) hp hb k1 k2 k3 T' rfl X'
    exact ⟨t2, st t2 a1, b1⟩
  · obtain ⟨k1, k2, k3⟩ := vx_keep h0 e1 hS hAX hf hL hF
    obtain ⟨t2, a1, b1⟩ := kx E ce q u t T'.heap (locs ++ L) e1.symm (by rw [← e2]; exact X'.warmed.alike) hp hb k1 k2 k3 (by rw [e1]; exact hce) hcv hcl T' rfl X'
    exact ⟨t2, st.trans a1, b1⟩
end Rows
/-! ===== a thrown thing is caught by a row of the method's own table: the rows' classes are resolved on the way (own proof, over the library without its last shelf) ===== -/
section
variable {Q : Handler → Pre} {E : CtlPost} {e : Env} {d : Bool} {acts : List Action} {s : State} {f : JFrame} {a : Addr}
theorem cg_row {x : ExceptionTableEntry} {t : List ExceptionTableEntry} {c : ClassId} {cell : Cell} (hx : covers x f.pc = true) (h0 : x.catchType ≠ 0) (hl : s.vm.ClassLinks e.platform f.method.cls x.catchType c)
    (hcell : s.heap[a]? = some cell) (hobj : ∀ k, cell.vm ≠ .statics k) (hk : ∃ k, s.vm.classes[cell.cls]? = some k) (hc : ∃ k, s.vm.classes[c]? = some k) {b : Bool} (hfit : s.vm.assignable cell.cls c = b) :
    wp (findHandler.go f a (x :: t)) Q E e d acts s ↔ (if b = true then Q (.found x.handlerPc) d acts (s.setVm (s.vm.noted f.method.cls x.catchType (.cls c))) else wp (findHandler.go f a t) Q E e d acts (s.setVm (s.vm.noted f.method.cls x.catchType (.cls c)))) := by
  have hx' : (decide (x.startPc ≤ f.pc) && decide (f.pc < x.endPc)) = true := hx
  have hr := (resolveClass_links e.toSetting hl).op (op := VmOp.resolveClass f.method.cls x.catchType) rfl
  have hal : s.vm.Alike (s.vm.noted f.method.cls x.catchType (.cls c)) := (Vm.Alike.refl s.vm).noted _ _ _
  obtain ⟨k1, hk1⟩ := hk
  obtain ⟨k2, hk2⟩ := hc
  obtain ⟨j1, hj1, -⟩ := hal.2.2 _ _ hk1
  obtain ⟨j2, hj2, -⟩ := hal.2.2 _ _ hk2
  have hf2 : (s.vm.noted f.method.cls x.catchType (.cls c)).assignable cell.cls c = b := by rw [hal.assignable]; exact hfit
  cases b <;> simp [findHandler.go, hx', h0, hr.1, hr.2, hcell, hobj, hj1, hj2, hf2, VmOp.dirties, VmOp.acts]
end
/-- the search comes to the row x, past rows that don't take the thing -/
theorem cg_go {e : Env} {s0 : State} {f : JFrame} {a : Addr} {cell : Cell} (hobj : ∀ k, cell.vm ≠ .statics k) (hk0 : ∃ k, s0.vm.classes[cell.cls]? = some k) (x : ExceptionTableEntry) (suf : List ExceptionTableEntry)
    (hx : covers x f.pc = true) (h0 : x.catchType ≠ 0) {c4 : ClassId} (hl4 : s0.vm.ClassLinks e.platform f.method.cls x.catchType c4) (hfit : s0.vm.assignable cell.cls c4 = true) :
    ∀ (pre : List ExceptionTableEntry) (S : State), s0.WarmedH S.vm → S.heap[a]? = some cell →
      (∀ y ∈ pre, covers y f.pc = false ∨ (y.catchType ≠ 0 ∧ ∃ c, s0.vm.ClassLinks e.platform f.method.cls y.catchType c ∧ s0.vm.assignable cell.cls c = false)) →
      ∃ vm', s0.WarmedH vm' ∧ ∀ (Q : Handler → Pre) (E : CtlPost) (d : Bool) (acts : List Action), wp (findHandler.go f a (pre ++ x :: suf)) Q E e d acts S ↔ Q (.found x.handlerPc) d acts (S.setVm vm') := by
  obtain ⟨k0, hk0⟩ := hk0
  intro pre
  induction pre with
  | nil =>
    intro S hW hcell _
    obtain ⟨k1, hk1, -⟩ := hW.alike.2.2 _ _ hk0
    obtain ⟨dk, _, _, kt, hd, _, _, _, _, hkt, _, hopen⟩ := hl4.here
    obtain ⟨kt1, hkt1, -⟩ := hW.alike.2.2 _ _ hkt
    refine ⟨_, hW.noted hd hopen (State.rightAt_cls hl4), fun Q E d acts => ?_⟩
    have h9 := cg_row (Q := Q) (E := E) (d := d) (acts := acts) (t := suf) (b := true) hx h0 (hW.classLinks hl4) hcell hobj ⟨k1, hk1⟩ ⟨kt1, hkt1⟩ (by rw [hW.alike.assignable]; exact hfit)
    exact h9
  | cons y ys ih =>
    intro S hW hcell hpass
    have hrest := fun z hz => hpass z (List.mem_cons_of_mem _ hz)
    rcases hpass y List.mem_cons_self with hn | ⟨hy0, c, hl, hno⟩
    · obtain ⟨vm', hW', hq⟩ := ih S hW hcell hrest
      exact ⟨vm', hW', fun Q E d acts => (Jvm.W.findHandler_go_skip hn).trans (hq Q E d acts)⟩
    · by_cases hcov : covers y f.pc = true
      · obtain ⟨k1, hk1, -⟩ := hW.alike.2.2 _ _ hk0
        obtain ⟨dk, _, _, kt, hd, _, _, _, _, hkt, _, hopen⟩ := hl.here
        obtain ⟨kt1, hkt1, -⟩ := hW.alike.2.2 _ _ hkt
        obtain ⟨vm', hW', hq⟩ := ih (S.setVm (S.vm.noted f.method.cls y.catchType (.cls c))) (hW.noted hd hopen (State.rightAt_cls hl)) hcell hrest
        refine ⟨vm', hW', fun Q E d acts => ?_⟩
        have h9 := cg_row (Q := Q) (E := E) (d := d) (acts := acts) (t := ys ++ x :: suf) (b := false) hcov hy0 (hW.classLinks hl) hcell hobj ⟨k1, hk1⟩ ⟨kt1, hkt1⟩ (by rw [hW.alike.assignable]; exact hno)
        exact h9.trans (hq Q E d acts)
      · obtain ⟨vm', hW', hq⟩ := ih S hW hcell hrest
        exact ⟨vm', hW', fun Q E d acts => (Jvm.W.findHandler_go_skip (by simpa using hcov)).trans (hq Q E d acts)⟩
section
variable {p : Program} {l : Launch} {e : Env} {R : Room} {s : State} {m : MethodId} {args : Array Value} {below : List Frame} {meth : Method} {c : Code} {H : Heap} {locs : List Loc} {cells slots : Nat} {Q : State → Prop} {pc : Nat} {ls : Array Slot} {rest : List Value}
/-- caught by the row x of this method's table; the rows ahead don't take it -/
theorem vx_catch {own name : String} {E : String} {ce : Cell} {q : Addr} (hown : s.vm.findClass own = some m.cls) (pre : List ExceptionTableEntry) (x : ExceptionTableEntry) (suf : List ExceptionTableEntry) (hsplit : c.exceptionTable.toList = pre ++ x :: suf)
    (hpass : ∀ z ∈ pre, covers z pc = false ∨ (z.catchType ≠ 0 ∧ ∃ nm : String, (Cond.classLink own z.catchType nm).before args s = true ∧ va_Nc E nm s)) (hx : covers x pc = true) (h0 : x.catchType ≠ 0)
    (hlink : (Cond.classLink own x.catchType name).before args s = true) (hcast : (Cond.castable E name).before args s = true) (hcell : H[q]? = some ce) (hv : ce.vm = .none) (hcl : s.vm.findClass E = some ce.cls)
    (kk : W p l e R s m args below meth c H locs cells slots Q (F0 m x.handlerPc ls [.ref q])) : vx_W p l e R s m args below meth c H locs cells slots Q (F0 m pc ls rest) q := by
  intro T hT X
  have hpl : e.platform.magicAccessors = ({} : Platform).magicAccessors := by rw [X.admits.platform]
  obtain ⟨c3, c4, hc3, hc4, hasg⟩ := Cond.castable_spec hcast
  cases Option.some.inj (hc3.symm.trans hcl)
  obtain ⟨c5, hc5, hcl5⟩ := Cond.classLink_spec hown hlink e.platform hpl
  cases Option.some.inj (hc4.symm.trans hc5)
  obtain ⟨g₁, hfr⟩ := X.frames_eq
  have hobj : ∀ k, ce.vm ≠ .statics k := fun k h => by rw [hv] at h; cases h
  obtain ⟨vm', hW', hq⟩ := cg_go (e := e) (s0 := s) (f := F0 m pc ls rest) (a := q) hobj (by obtain ⟨k9, h9, -⟩ := Vm.findClass_spec hcl; exact ⟨k9, h9⟩) x suf hx h0 hcl5 hasg pre ((T.setTop (F0 m pc ls rest)).pushFrame (.throwing q)) X.warmed (by show T.heap[q]? = some ce; rw [hT]; exact hcell)
    (fun z hz => by
      rcases hpass z hz with h | ⟨hz0, nm, hl1, hn1⟩
      · exact Or.inl h
      · obtain ⟨c6, hc6, hcl6⟩ := Cond.classLink_spec hown hl1 e.platform hpl
        obtain ⟨a8, b8, h1, h2, h3⟩ := hn1
        cases Option.some.inj (h1.symm.trans hcl)
        cases Option.some.inj (h2.symm.trans hc6)
        exact Or.inr ⟨hz0, _, hcl6, h3⟩)
  obtain ⟨t, a1, b1⟩ := kk (T.setVm vm') hT (X.noted hW')
  refine ⟨t, ?_, b1⟩
  obtain ⟨hgo, hw⟩ := X.here.throwing (g := F0 m pc ls rest) q
  refine Steps.head hgo hw ?_
  have hfind : ∀ (Q : Handler → Pre) (E : CtlPost) (d : Bool) (acts : List Action), wp (findHandler (F0 m pc ls rest) q) Q E e d acts ((T.setTop (F0 m pc ls rest)).pushFrame (.throwing q)) ↔ Q (.found x.handlerPc) d acts (((T.setTop (F0 m pc ls rest)).pushFrame (.throwing q)).setVm vm') := fun Q E d acts => by
    rw [Jvm.W.findHandler_eq (meth := meth) (code := c) X.method' X.code, hsplit]
    exact hq Q E d acts
  have hstep : (stepThrowing e ((T.setTop (F0 m pc ls rest)).pushFrame (.throwing q)) q (.java (F0 m pc ls rest) :: below)).Is ((((T.setTop (F0 m pc ls rest)).pushFrame (.throwing q)).setVm vm').setFrames (.java { (F0 m pc ls rest) with pc := x.handlerPc, stack := [.ref q] } :: below)) [] := by
    simp only [stepThrowing, searchFrame, vmDo]
    generalize hr : Sem.go _ e false [] ((T.setTop (F0 m pc ls rest)).pushFrame (.throwing q)) = res
    obtain ⟨as, rfl, ha⟩ := Sem.eq_ok_of hr (a := Handler.found x.handlerPc) (s' := ((T.setTop (F0 m pc ls rest)).pushFrame (.throwing q)).setVm vm') (acts' := []) (by simp [hfind _ _ _ _])
    exact ⟨rfl, ha⟩
  have hf1 : ((T.setTop (F0 m pc ls rest)).pushFrame (.throwing q)).frames = .throwing q :: .java (F0 m pc ls rest) :: below := by
    rw [State.pushFrame, State.frames_setTop _ hfr, State.setTop_of_frames _ hfr, State.setFrames_setFrames]
    exact State.frames_setFrames _ (State.cur_lt_of_frames hfr)
  rw [stepThread_throwing hf1, hstep.1]
  have hr2 : (T.setVm vm').frames = .java g₁ :: below := hfr
  rw [State.setTop_of_frames _ hr2] at a1
  have e1 : (((T.setTop (F0 m pc ls rest)).pushFrame (.throwing q)).setVm vm').setFrames (.java { (F0 m pc ls rest) with pc := x.handlerPc, stack := [.ref q] } :: below) = (T.setVm vm').setFrames (.java (F0 m x.handlerPc ls [.ref q]) :: below) := by
    rw [State.pushFrame, State.frames_setTop _ hfr, State.setTop_of_frames _ hfr, State.setFrames_setFrames]
    have h1 : (T.setFrames (Frame.throwing q :: Frame.java (F0 m pc ls rest) :: below)).setVm vm' = (T.setVm vm').setFrames (Frame.throwing q :: Frame.java (F0 m pc ls rest) :: below) := rfl
    rw [h1, State.setFrames_setFrames]
  rw [e1]
  exact a1
end
section Ends
variable {p : Program} {l : Launch} {e : Env} {R : Room} {s : State} {m : MethodId} {args : Array Value} {below : List Frame} {meth : Method} {c : Code} {H : Heap} {locs : List Loc} {cells slots : Nat} {Q : State → Prop}
variable {mc ms : Nat} {free : Addr → Prop} {A0 A1 : Nat → Prop} {H0 : Heap} {a : Array Value} {ls : Array Slot} {st0 rest : List Value}
variable {Qc : Array Value → State → Outcome → State → Prop} {XC : String → State → State → Prop}
/-- what a body that may throw owes at its end -/
def vx_MQ (below : List Frame) (Qc : Array Value → State → Outcome → State → Prop) (XC : String → State → State → Prop) (a : Array Value) (s : State) (mc ms : Nat) (free : Addr → Prop) : State → Prop := fun t =>
  ∃ o, t.status = .running ∧ Ended t below o ∧ vx_Q Qc XC mc ms free a s o t
theorem vx_ret {g : JFrame} {mc ms : Nat} (k : W p l e R s m args below meth c H locs cells slots (MQ below Qc args s mc ms free) g) : W p l e R s m args below meth c H locs cells slots (vx_MQ below Qc XC args s mc ms free) g := by
  intro T hT X
  obtain ⟨t, a1, o, b1, b2, b3, b4⟩ := k T hT X
  exact ⟨t, a1, o, b1, b2, Or.inl ⟨b3, b4⟩⟩
/-- not caught here: it goes on to the caller -/
theorem vx_widen {g : JFrame} {q : Addr} {k n : Nat} (h1 : cells ≤ k) (h2 : slots ≤ n) (kk : vx_W p l e R s m args below meth c H locs k n Q g q) : vx_W p l e R s m args below meth c H locs cells slots Q g q := fun T hT X => kk T hT (stand_widen X h1 h2)
theorem vx_out {pc : Nat} {E : String} {ce : Cell} {q : Addr} {mc ms : Nat} (hout : ∀ x ∈ c.exceptionTable.toList, covers x pc = false) (hlocks : meth.locks = false) (hcell : H[q]? = some ce) (hv : ce.vm = .none) (hcl : s.vm.findClass E = some ce.cls)
    (hx : ∀ t : State, t.heap = H → s.vm.Alike t.vm → XC E s t) (hf : ∀ z ∈ locs, free z.base) (hc : cells ≤ mc) (hs : slots ≤ ms) :
    vx_W p l e R s m args below meth c H locs cells slots (vx_MQ below Qc XC args s mc ms free) (F0 m pc ls rest) q := by
  intro T hT X
  obtain ⟨st1, hrun, hend, hW, hsm⟩ := X.leaveThrown q (g := F0 m pc ls rest) rfl rfl rfl hout hlocks
  have hcell9 : (T.setFrames (.throwing q :: below)).heap[q]? = some ce := by
    show T.heap[q]? = some ce
    rw [hT]; exact hcell
  exact ⟨_, st1, .threw q, hrun, hend, Or.inr ⟨q, rfl, E, ce, locs, hx _ hT hW.alike, hcell9, hv, hcl, hW, hsm.mono hc hs, hf⟩⟩
theorem vx_frame {U : State} {k n : Nat} (h : s.sameButNew ({ U with vm := s.vm } : State) locs k n) : s.heap.size ≤ U.heap.size ∧ ∀ q : Nat, q < s.heap.size → (∀ z ∈ locs, z.base ≠ q) → U.heap[q]? = s.heap[q]? := by
  obtain ⟨-, h2, -, -, -, h6⟩ := h
  refine ⟨h2, fun q hq hz => ?_⟩
  obtain ⟨c9, e1, e2, e3, e4⟩ := h6 q _ (Array.getElem?_eq_getElem hq)
  have hs : c9.slots = (s.heap[q]).slots := Array.ext_getElem? fun i => e4 i fun hm => hz _ hm rfl
  have h9 : c9 = s.heap[q] := by
    rw [hs] at e2
    exact e2
  have e5 : U.heap[q]? = some c9 := e1
  rw [e5, h9, Array.getElem?_eq_getElem hq]
/-- the words of a throw but the four that speak of the heap -/
def vx_no (w : Cond) : Bool := decide (w ≠ .isRef (.static Bundle.tN "UNASSIGNED_STACK" Bundle.steD)) && decide (w ≠ .isRef (.static Bundle.tN "SUPPRESSED_SENTINEL" Bundle.listD)) && decide (w ≠ .laysStatic Bundle.tN "UNASSIGNED_STACK" Bundle.steD) && decide (w ≠ .laysStatic Bundle.tN "SUPPRESSED_SENTINEL" Bundle.listD)
def vx_at0 (own : String) (ic : Nat) (X : String) (names : List String) : List Cond := (Bundle.ownAtoms0 own ic X names).filter vx_no
def vx_atS (own : String) (ic : Nat) (X : String) (names : List String) : List Cond := (Bundle.ownAtoms own ic X names).filter vx_no
/-- a word that the tables alone decide, or a good one -/
def vx_ot (w : Cond) : Bool := w.onTables || goodWord w
theorem vx_ot_at {args a' : Array Value} {s U : State} {w : Cond} (hW : s.WarmedH U.vm) (hvm : s.vm = U.vm) (hg : vx_ot w = true) (h : w.before args s = true) : w.before a' U = true := by
  simp only [vx_ot, Bool.or_eq_true] at hg
  rcases hg with hg | hg
  · exact va_tabs hg hvm h
  · exact word_at hW (good_of_word hg) h
/-- a list's words: the good ones out of the method's own list, the others by premises of their own -/
theorem vx_hat {args : Array Value} {s : State} {L B : List Cond} (h1 : ∀ w ∈ L.filter goodWord, w.before args s = true) (h2 : ∀ w ∈ L.filter (fun w => !goodWord w), w ∈ B) (h3 : ∀ w ∈ B, w.before args s = true) : ∀ w ∈ L, w.before args s = true := by
  intro w hw
  by_cases g : goodWord w = true
  · exact h1 w (List.mem_filter.mpr ⟨hw, g⟩)
  · refine h3 w (h2 w (List.mem_filter.mpr ⟨hw, ?_⟩))
    show (!goodWord w) = true
    cases hgw : goodWord w
    · rfl
    · exact absurd hgw g
theorem vx_c {args : Array Value} {s : State} {w : Cond} {B : List Cond} (h : w.before args s = true) (t : ∀ w ∈ B, w.before args s = true) : ∀ w' ∈ w :: B, w'.before args s = true := fun w' h' => (List.mem_cons.mp h').elim (fun e => by rw [e]; exact h) (t w')
theorem vx_n {args : Array Value} {s : State} : ∀ w ∈ ([] : List Cond), w.before args s = true := fun _ h => nomatch h
theorem vx_own {args : Array Value} {s : State} {L : List Cond} (h1 : ∀ w ∈ L.filter vx_no, w.before args s = true)
    (hU : (Cond.isRef (.static Bundle.tN "UNASSIGNED_STACK" Bundle.steD)).before args s = true) (hN : (Cond.isRef (.static Bundle.tN "SUPPRESSED_SENTINEL" Bundle.listD)).before args s = true)
    (lU : (Cond.laysStatic Bundle.tN "UNASSIGNED_STACK" Bundle.steD).before args s = true) (lN : (Cond.laysStatic Bundle.tN "SUPPRESSED_SENTINEL" Bundle.listD).before args s = true) : ∀ w ∈ L, w.before args s = true := by
  intro w hw
  by_cases e1 : w = .isRef (.static Bundle.tN "UNASSIGNED_STACK" Bundle.steD)
  · rw [e1]; exact hU
  · by_cases e2 : w = .isRef (.static Bundle.tN "SUPPRESSED_SENTINEL" Bundle.listD)
    · rw [e2]; exact hN
    · by_cases e3 : w = .laysStatic Bundle.tN "UNASSIGNED_STACK" Bundle.steD
      · rw [e3]; exact lU
      · by_cases e4 : w = .laysStatic Bundle.tN "SUPPRESSED_SENTINEL" Bundle.listD
        · rw [e4]; exact lN
        · exact h1 w (List.mem_filter.mpr ⟨hw, by unfold vx_no; rw [decide_eq_true e1, decide_eq_true e2, decide_eq_true e3, decide_eq_true e4]; rfl⟩)
/-- where a static field lies, its class's statics cell in H -/
def vx_L (C n d : String) (A : Nat → Prop) (U : State) (H : Heap) : Prop := ∃ (c : ClassId) (k : Class) (i : Nat) (f : Field) (a : Nat) (cell : Cell), U.vm.findClass C = some c ∧ U.fieldFound? C n d = some (c, k, i, f) ∧ f.isStatic = true ∧ k.statics = some a ∧ H[a]? = some cell ∧ cell.vm.isStatics = true ∧ cell.cls = c ∧ f.slot < cell.slots.size ∧ k.staticTypes[f.slot]? = some f.type ∧ ¬ A a
theorem vx_L.moved {C n d : String} {A : Nat → Prop} {u U : State} {H : Heap} (hvm : u.vm.Alike U.vm) (h : vx_L C n d A u H) : vx_L C n d A U H := by
  obtain ⟨c, k, i, f, a, cell, h1, h2, h3, h4, h5, h6, h7, h8, h9, h10⟩ := h
  obtain ⟨k', hi', he⟩ := State.fieldFound?_setVm hvm h2
  exact ⟨c, k', i, f, a, cell, by rw [hvm.findClass]; exact h1, hi', h3, by rw [he]; exact h4, h5, h6, h7, h8, by rw [he]; exact h9, h10⟩
theorem vx_L.kept {C n d : String} {A : Nat → Prop} {U : State} {H H1 : Heap} (h : vx_L C n d A U H) (hq : ∀ a : Nat, a < H.size → ¬ A a → H1[a]? = H[a]?) : vx_L C n d A U H1 := by
  obtain ⟨c, k, i, f, a, cell, h1, h2, h3, h4, h5, h6, h7, h8, h9, h10⟩ := h
  exact ⟨c, k, i, f, a, cell, h1, h2, h3, h4, by rw [hq a (Array.getElem?_eq_some_iff.mp h5).1 h10]; exact h5, h6, h7, h8, h9, h10⟩
theorem vx_L.narrow {C n d : String} {A B : Nat → Prop} {U : State} {H : Heap} (h : vx_L C n d A U H) (hAB : ∀ q, B q → A q) : vx_L C n d B U H := by
  obtain ⟨c, k, i, f, a, cell, h1, h2, h3, h4, h5, h6, h7, h8, h9, h10⟩ := h
  exact ⟨c, k, i, f, a, cell, h1, h2, h3, h4, h5, h6, h7, h8, h9, fun z => h10 (hAB _ z)⟩
theorem vx_L.word {C n d : String} {A : Nat → Prop} {s : State} {args : Array Value} (h : vx_L C n d A s s.heap) : (Cond.laysStatic C n d).before args s = true := by
  obtain ⟨c, k, i, f, a, cell, h1, h2, h3, h4, h5, h6, h7, h8, h9, -⟩ := h
  show (Cond.laysStatic C n d).holds args s none s [] = true
  exact Cond.laysStatic_of h1 h2 h3 h4 h5 h6 h7 h8 h9
/-- .. and what it holds: null or some reference -/
def vx_Zq (C n d : String) (A : Nat → Prop) (U : State) (H : Heap) : Prop := va_Zq C n d A U H ∧ vx_L C n d A U H
theorem vx_Zq.moved {C n d : String} {A : Nat → Prop} {u U : State} {H : Heap} (hvm : u.vm.Alike U.vm) (h : vx_Zq C n d A u H) : vx_Zq C n d A U H := ⟨va_Zq.moved hvm h.1, vx_L.moved hvm h.2⟩
theorem vx_Zq.kept {C n d : String} {A : Nat → Prop} {U : State} {H H1 : Heap} (h : vx_Zq C n d A U H) (hq : ∀ a : Nat, a < H.size → ¬ A a → H1[a]? = H[a]?) : vx_Zq C n d A U H1 := ⟨va_Zq.kept h.1 hq, vx_L.kept h.2 hq⟩
theorem vx_Zq.narrow {C n d : String} {A B : Nat → Prop} {U : State} {H : Heap} (h : vx_Zq C n d A U H) (hAB : ∀ q, B q → A q) : vx_Zq C n d B U H := ⟨va_Zq.narrow h.1 hAB, vx_L.narrow h.2 hAB⟩
theorem vx_Zqof {args : Array Value} {s : State} {C n d : String} {A : Nat → Prop} (hl : (Cond.laysStatic C n d).before args s = true) (hini : (Cond.initialized C).before args s = true) (h : (Cond.isRef (.static C n d)).before args s = true) (hA : ∀ a : Nat, a < s.heap.size → ¬ A a) : vx_Zq C n d A s s.heap := by
  refine ⟨va_Zqof hl hini h hA, ?_⟩
  obtain ⟨c, k, i, f, a, cell, h1, h2, h3, h4, h5, h6, h7, h8, h9⟩ := Cond.laysStatic_spec hl
  exact ⟨c, k, i, f, a, cell, h1, h2, h3, h4, h5, h6, h7, h8, h9, hA a (Array.getElem?_eq_some_iff.mp h5).1⟩
theorem vx_isRef {C n d : String} {v : Value} {A : Nat → Prop} {s : State} {args : Array Value} (h : va_Z C n d v A s s.heap) (hv : v.isRef = true) : (Cond.isRef (.static C n d)).before args s = true := by
  obtain ⟨cf, kf, fi, f, a, cell, h1, h2, h3, h4, h5, h6, h7, -⟩ := h
  have he : (Term.static C n d).eval args s none [] s = some v := by
    simp [Term.eval, State.fieldNamed?, h1, h2, h4, h5, h6, h7]
  simp only [Cond.before, Cond.holds, Cond.value, he]
  cases v <;> simp_all [Value.isRef]
theorem vx_isRefq {C n d : String} {A : Nat → Prop} {s : State} {args : Array Value} (h : va_Zq C n d A s s.heap) : (Cond.isRef (.static C n d)).before args s = true := by
  rcases h with h | ⟨t, h⟩
  · exact vx_isRef h rfl
  · exact vx_isRef h rfl
/-- the same frame, seen from here: as if the method were called anew in this heap -/
theorem vx_rebase {T : State} (X : Stand p l e R s m args below meth c T locs cells slots) {R' : Room} (hf : R'.frames ≤ R.frames) (hl : R'.locals ≤ R.locals) (hc : cells + R'.cells ≤ R.cells) (hs : slots + R'.slots ≤ R.slots) :
    Stand p l e R' ((T.setVm s.vm).setFrames (.invoking m args :: below)) m args below meth c T [] 0 0 := by
  have htop : (T.setVm s.vm).topJava?.isSome := X.here.top
  have hF : ((T.setVm s.vm).setFrames (.invoking m args :: below)).frames = .invoking m args :: below := State.frames_setFrames _ (State.cur_lt_of_top htop)
  obtain ⟨g₀, hg0⟩ := Option.isSome_iff_exists.mp htop
  obtain ⟨r, hr⟩ := State.topJava?_eq_some.mp hg0
  have hl9 : e.platform.stackLimits (T.setVm s.vm).me = e.platform.stackLimits s.me := X.limits
  have hb9 : (T.setVm s.vm).me.stackBytes = s.me.stackBytes := X.bytes
  refine ⟨X.admits, X.cas, X.clock, hF, ?_, X.hears, X.method, X.code, X.here, X.tail, X.warmed, ?_, ?_, ?_⟩
  · have h := X.room
    have hU : ((T.setVm s.vm).setFrames (.invoking m args :: below)).localsInUse = s.localsInUse := by
      rw [State.localsInUse_invoking hF (meth := meth) (c := c) X.method X.code, State.localsInUse_invoking X.frames X.method X.code]
    simp only [State.hasRoom, Bool.and_eq_true, decide_eq_true_eq] at h ⊢
    obtain ⟨⟨⟨⟨h1, h2, h3, h4, h5, h6⟩, h7⟩, h8⟩, h9⟩ := h
    rw [X.frames, List.length_cons] at h2 h3
    have q1 := X.heapSize
    have q2 := X.used
    simp only [hF, hU, List.length_cons, State.stackLimits_setFrames, State.stackBytes_setFrames, hl9, hb9]
    refine ⟨⟨⟨⟨by omega, by omega, by omega, by omega, by omega, h6⟩, ?_⟩, ?_⟩, X.book⟩
    · show T.heap.size + R'.cells ≤ e.platform.maxCells
      omega
    · show T.slotsUsed + R'.slots ≤ e.platform.maxSlots
      omega
  · rw [State.stackLimits_setFrames]; rfl
  · rw [State.stackBytes_setFrames]; rfl
  · refine ⟨?_, Nat.le_refl _, Nat.le_refl _, ?_, ?_, fun a c9 h9 => ⟨c9, h9, rfl, rfl, fun _ _ => rfl⟩⟩
    · obtain ⟨t, ht, -⟩ := State.frames_cons hr
      show T.setVm s.vm = { ((T.setVm s.vm).setFrames (.invoking m args :: below)).setFrames (T.setVm s.vm).frames with heap := T.heap, slotsUsed := T.slotsUsed }
      rw [State.setFrames_setFrames, State.setFrames_self ht]
      rfl
    · show T.slotsUsed = T.slotsUsed + ((T.heap.toList.drop T.heap.size).map (·.slots.size)).sum
      rw [List.drop_eq_nil_of_le (Nat.le_of_eq Array.length_toList)]
      rfl
    · show ((T.heap.toList.drop T.heap.size).map (·.slots.size)).sum ≤ 0
      rw [List.drop_eq_nil_of_le (Nat.le_of_eq Array.length_toList)]
      exact Nat.le_refl _
/-- 'throw new E()': new; dup; invokespecial; athrow -/
theorem vx_throw0 {cc : ByteArray} {pc : Nat} (hexec : p.tables.exec = Jvm.exec) (hb : c.code = cc) (hl : l.stackTraces = false) {own cls : String} {names : List String} {ik ic mc ms : Nat} {A : Nat → Prop}
    (hown : s.vm.findClass own = some m.cls) (hcls : Bundle.fit cls = true) (hnames : ∀ n ∈ names, Bundle.fit n = true)
    (hk : (Cond.classLink own ik cls).before args s = true) (hini : (Cond.initialized cls).before args s = true) (hat : ∀ w ∈ vx_at0 own ic cls names, w.before args s = true)
    (hgood : ∀ w ∈ Cond.classLink own ik cls :: Cond.initialized cls :: vx_at0 own ic cls names, vx_ot w = true)
    (hU : vx_Zq Bundle.tN "UNASSIGNED_STACK" Bundle.steD A s s.heap) (hN : vx_Zq Bundle.tN "SUPPRESSED_SENTINEL" Bundle.listD A s s.heap) (hS : va_S A s.heap H locs) (hsize : ls.size = c.maxLocals)
    (d0 : decode cc pc = .ok (.new ik, 3)) (d3 : decode cc (pc + 3) = .ok (.dup, 1)) (d4 : decode cc (pc + 4) = .ok (.invokespecial ic, 3)) (d7 : decode cc (pc + 7) = .ok (.athrow, 1))
    (hout : ∀ x ∈ c.exceptionTable.toList, covers x (pc + 7) = false)
    (hRframes : names.length + 3 < R.frames) (hRlocals : (rest.map fun v => v.category).sum + (13 * (names.length + 1) + 42) ≤ R.locals) (hRcells : cells + 1 ≤ R.cells) (hRslots : slots + 6 ≤ R.slots) (hlocks : meth.locks = false)
    (hx : ∀ t : State, s.vm.Alike t.vm → H.size ≤ t.heap.size → (∀ q : Nat, q < H.size → t.heap[q]? = H[q]?) → XC cls s t)
    (hf : ∀ z ∈ locs, free z.base) (hc : cells + 1 ≤ mc) (hs : slots + 6 ≤ ms) :
    W p l e R s m args below meth c H locs cells slots (vx_MQ below Qc XC args s mc ms free) (F0 m pc ls rest) := by
  intro T hT X
  have htr : e.platform.stackTraces = false := (show e.platform.stackTraces = l.stackTraces by rw [X.admits.platform]).trans hl
  have Y := vx_rebase X (R' := { frames := R.frames, locals := R.locals, cells := 1, slots := 6 }) (Nat.le_refl _) (Nat.le_refl _) hRcells hRslots
  obtain ⟨s', hA⟩ : ∃ z, z = (T.setVm s.vm).setFrames (.invoking m args :: below) := ⟨_, rfl⟩
  rw [← hA] at Y
  have hvm : s'.vm = s.vm := by rw [hA]; rfl
  have hhp : s'.heap = H := by rw [hA]; exact hT
  have hW0 : s.WarmedH s'.vm := by rw [hvm]; exact State.WarmedH.refl s
  have hat' : ∀ w ∈ vx_at0 own ic cls names, w.before args s' = true := fun w hw => vx_ot_at hW0 hvm.symm (hgood w (List.mem_cons_of_mem _ (List.mem_cons_of_mem _ hw))) (hat w hw)
  have hk' : (Cond.classLink own ik cls).before args s' = true := vx_ot_at hW0 hvm.symm (hgood _ List.mem_cons_self) hk
  have hini' : (Cond.initialized cls).before args s' = true := vx_ot_at hW0 hvm.symm (hgood _ (List.mem_cons_of_mem _ List.mem_cons_self)) hini
  have hU' : vx_Zq Bundle.tN "UNASSIGNED_STACK" Bundle.steD A s' s'.heap := by rw [hhp]; exact vx_Zq.moved hW0.alike (hU.kept hS.2.1)
  have hN' : vx_Zq Bundle.tN "SUPPRESSED_SENTINEL" Bundle.listD A s' s'.heap := by rw [hhp]; exact vx_Zq.moved hW0.alike (hN.kept hS.2.1)
  have h : ∀ w ∈ Bundle.ownAtoms0 own ic cls names, w.before args s' = true := vx_own hat' (vx_isRefq hU'.1) (vx_isRefq hN'.1) hU'.2.word hN'.2.word
  have hown' : s'.vm.findClass own = some m.cls := by rw [hvm]; exact hown
  have hins : (Cond.instantiable cls 6).before args s' = true := h _ (by simp [Bundle.ownAtoms0])
  obtain ⟨vm₁, cX, kX, hfX, hkX, -, -, X₁, st1⟩ := Y.newCold hexec (own := own) (C := cls) (index := ik) (n := 6) hown' hk' hins hini'
    (g := F0 m pc ls rest) rfl (by rw [hb]; exact d0) (Nat.le_refl _) (Nat.le_refl _)
  generalize hT1 : (T.setVm vm₁).pushCell { cls := cX, slots := kX.instanceTypes.map defaultValue, vm := .none } = T1 at X₁ st1
  have hcat : (Value.ref T.heap.size).category = 1 := rfl
  have hcellA : T1.heap[T.heap.size]? = some (freshCell cX kX) := by rw [← hT1]; exact State.heap_pushCell_size _ _
  have d3' : decode c.code (pc + 3) = .ok (.dup, 1) := by rw [hb]; exact d3
  obtain ⟨U, hsteps, hrun, hend, hW, hsame, ce, hce, hO⟩ := X₁.ctorThrow0 hexec htr (own := own) (cls := cls) (names := names) (ic := ic) hown' hcls hnames h (fun x hx => nomatch hx) hfX hkX hcellA (by rw [hhp, hT]; exact Nat.le_refl _)
    (g := { method := m, pc := pc + 4, locals := ls, stack := .ref T.heap.size :: .ref T.heap.size :: rest, locked := none }) rfl hsize rfl rfl (rest := rest) rfl
    (by rw [hb]; exact d4) (by rw [hb]; exact d7) hout hRframes (by simp only [List.map_cons, List.sum_cons, hcat]; omega) hlocks
  obtain ⟨f1, f2⟩ := vx_frame hsame
  rw [hhp] at f1 f2
  have hWs : s.WarmedH U.vm := State.WarmedH.trans hW0 hW
  have hcl : s.vm.findClass cls = some ce.cls := by
    have h9 := hO.cls
    rw [hvm] at h9
    exact h9
  have hall : s.sameButNew ({ U with vm := s.vm } : State) locs mc ms := by
    subst hA
    obtain ⟨e1, e2⟩ := hsame
    rw [State.setFrames_setFrames] at e1
    have h2 : (T.setVm s.vm).sameButNew ({ U with vm := s.vm } : State) [] (0 + 1) (0 + 6) := ⟨e1, e2⟩
    have h3 := X.same.trans h2
    rw [List.append_nil] at h3
    exact h3.mono hc hs
  refine ⟨U, ?_, .threw T.heap.size, hrun, hend, Or.inr ⟨T.heap.size, rfl, cls, ce, locs, hx U hWs.alike f1 (fun q hq => f2 q hq (fun z hz => nomatch hz)), hce, hO.vm, hcl, hWs, hall, hf⟩⟩
  refine st1 _ ?_
  show Steps p.tables e below (T1.setTop { method := m, pc := pc + 3, locals := ls, stack := .ref T.heap.size :: rest, locked := none }) _
  jvm_step X₁.here [X₁.here.top, hexec, d3', Value.category]
  exact hsteps
/-- 'throw new E("text")': new; dup; ldc; invokespecial; athrow -/
theorem vx_throwS {cc : ByteArray} {pc : Nat} (hexec : p.tables.exec = Jvm.exec) (hb : c.code = cc) (hl : l.stackTraces = false) {own cls text : String} {names : List String} {ik is ic mc ms sa : Nat} {A : Nat → Prop}
    (hown : s.vm.findClass own = some m.cls) (hcls : Bundle.fit cls = true) (hnames : ∀ n ∈ names, Bundle.fit n = true)
    (hk : (Cond.classLink own ik cls).before args s = true) (hini : (Cond.initialized cls).before args s = true) (hstr : vk_R own is text sa s) (hat : ∀ w ∈ vx_atS own ic cls names, w.before args s = true)
    (hgood : ∀ w ∈ Cond.classLink own ik cls :: Cond.initialized cls :: vx_atS own ic cls names, vx_ot w = true)
    (hU : vx_Zq Bundle.tN "UNASSIGNED_STACK" Bundle.steD A s s.heap) (hN : vx_Zq Bundle.tN "SUPPRESSED_SENTINEL" Bundle.listD A s s.heap) (hS : va_S A s.heap H locs) (hsize : ls.size = c.maxLocals)
    (d0 : decode cc pc = .ok (.new ik, 3)) (d3 : decode cc (pc + 3) = .ok (.dup, 1)) (d4 : decode cc (pc + 4) = .ok (.ldc is, 2)) (d6 : decode cc (pc + 6) = .ok (.invokespecial ic, 3)) (d9 : decode cc (pc + 9) = .ok (.athrow, 1))
    (hout : ∀ x ∈ c.exceptionTable.toList, covers x (pc + 9) = false)
    (hRframes : names.length + 3 < R.frames) (hRlocals : (rest.map fun v => v.category).sum + (13 * (names.length + 1) + 43) ≤ R.locals) (hRcells : cells + 1 ≤ R.cells) (hRslots : slots + 6 ≤ R.slots) (hlocks : meth.locks = false)
    (hx : ∀ t : State, s.vm.Alike t.vm → H.size ≤ t.heap.size → (∀ q : Nat, q < H.size → t.heap[q]? = H[q]?) → XC cls s t)
    (hf : ∀ z ∈ locs, free z.base) (hc : cells + 1 ≤ mc) (hs : slots + 6 ≤ ms) :
    W p l e R s m args below meth c H locs cells slots (vx_MQ below Qc XC args s mc ms free) (F0 m pc ls rest) := by
  intro T hT X
  have htr : e.platform.stackTraces = false := (show e.platform.stackTraces = l.stackTraces by rw [X.admits.platform]).trans hl
  have Y := vx_rebase X (R' := { frames := R.frames, locals := R.locals, cells := 1, slots := 6 }) (Nat.le_refl _) (Nat.le_refl _) hRcells hRslots
  obtain ⟨s', hA⟩ : ∃ z, z = (T.setVm s.vm).setFrames (.invoking m args :: below) := ⟨_, rfl⟩
  rw [← hA] at Y
  have hvm : s'.vm = s.vm := by rw [hA]; rfl
  have hhp : s'.heap = H := by rw [hA]; exact hT
  have hW0 : s.WarmedH s'.vm := by rw [hvm]; exact State.WarmedH.refl s
  have hat' : ∀ w ∈ vx_atS own ic cls names, w.before args s' = true := fun w hw => vx_ot_at hW0 hvm.symm (hgood w (List.mem_cons_of_mem _ (List.mem_cons_of_mem _ hw))) (hat w hw)
  have hk' : (Cond.classLink own ik cls).before args s' = true := vx_ot_at hW0 hvm.symm (hgood _ List.mem_cons_self) hk
  have hini' : (Cond.initialized cls).before args s' = true := vx_ot_at hW0 hvm.symm (hgood _ (List.mem_cons_of_mem _ List.mem_cons_self)) hini
  have hU' : vx_Zq Bundle.tN "UNASSIGNED_STACK" Bundle.steD A s' s'.heap := by rw [hhp]; exact vx_Zq.moved hW0.alike (hU.kept hS.2.1)
  have hN' : vx_Zq Bundle.tN "SUPPRESSED_SENTINEL" Bundle.listD A s' s'.heap := by rw [hhp]; exact vx_Zq.moved hW0.alike (hN.kept hS.2.1)
  have h : ∀ w ∈ Bundle.ownAtoms own ic cls names, w.before args s' = true := vx_own hat' (vx_isRefq hU'.1) (vx_isRefq hN'.1) hU'.2.word hN'.2.word
  have hown' : s'.vm.findClass own = some m.cls := by rw [hvm]; exact hown
  have hins : (Cond.instantiable cls 6).before args s' = true := h _ (by simp [Bundle.ownAtoms])
  obtain ⟨vm₁, cX, kX, hfX, hkX, -, -, X₁, st1⟩ := Y.newCold hexec (own := own) (C := cls) (index := ik) (n := 6) hown' hk' hins hini'
    (g := F0 m pc ls rest) rfl (by rw [hb]; exact d0) (Nat.le_refl _) (Nat.le_refl _)
  generalize hT1 : (T.setVm vm₁).pushCell { cls := cX, slots := kX.instanceTypes.map defaultValue, vm := .none } = T1 at X₁ st1
  have hcat : (Value.ref T.heap.size).category = 1 := rfl
  have hcellA : T1.heap[T.heap.size]? = some (freshCell cX kX) := by rw [← hT1]; exact State.heap_pushCell_size _ _
  have d3' : decode c.code (pc + 3) = .ok (.dup, 1) := by rw [hb]; exact d3
  have d4' : decode c.code (pc + 4) = .ok (.ldc is, 2) := by rw [hb]; exact d4
  have hstr' : vk_R own is text sa s' := vk_R.warm hW0 hstr
  obtain ⟨U, hsteps, hrun, hend, hW, hsame, ce, hce, hO⟩ := X₁.ctorThrowS hexec htr (own := own) (cls := cls) (names := names) (ic := ic) hown' hcls hnames h (fun x hx => nomatch hx) hfX hkX hcellA (by rw [hhp, hT]; exact Nat.le_refl _) (msg := .ref sa) rfl
    (g := { method := m, pc := pc + 6, locals := ls, stack := .ref sa :: .ref T.heap.size :: .ref T.heap.size :: rest, locked := none }) rfl hsize rfl rfl (rest := rest) rfl
    (by rw [hb]; exact d6) (by rw [hb]; exact d9) hout hRframes (by simp only [List.map_cons, List.sum_cons, hcat]; omega) hlocks
  obtain ⟨f1, f2⟩ := vx_frame hsame
  rw [hhp] at f1 f2
  have hWs : s.WarmedH U.vm := State.WarmedH.trans hW0 hW
  have hcl : s.vm.findClass cls = some ce.cls := by
    have h9 := hO.cls
    rw [hvm] at h9
    exact h9
  have hall : s.sameButNew ({ U with vm := s.vm } : State) locs mc ms := by
    subst hA
    obtain ⟨e1, e2⟩ := hsame
    rw [State.setFrames_setFrames] at e1
    have h2 : (T.setVm s.vm).sameButNew ({ U with vm := s.vm } : State) [] (0 + 1) (0 + 6) := ⟨e1, e2⟩
    have h3 := X.same.trans h2
    rw [List.append_nil] at h3
    exact h3.mono hc hs
  refine ⟨U, ?_, .threw T.heap.size, hrun, hend, Or.inr ⟨T.heap.size, rfl, cls, ce, locs, hx U hWs.alike f1 (fun q hq => f2 q hq (fun z hz => nomatch hz)), hce, hO.vm, hcl, hWs, hall, hf⟩⟩
  refine st1 _ ?_
  show Steps p.tables e below (T1.setTop { method := m, pc := pc + 3, locals := ls, stack := .ref T.heap.size :: rest, locked := none }) _
  jvm_step X₁.here [X₁.here.top, hexec, d3', Value.category]
  exact X₁.ldcString hexec (own := own) (text := text) (index := is) (a := sa) hown' hstr'.1 hstr'.2
    (g := { method := m, pc := pc + 4, locals := ls, stack := .ref T.heap.size :: .ref T.heap.size :: rest, locked := none }) rfl d4' _ hsteps
/-- 'throw new E("text")', the text by a wide index -/
theorem vx_throwSW {cc : ByteArray} {pc : Nat} (hexec : p.tables.exec = Jvm.exec) (hb : c.code = cc) (hl : l.stackTraces = false) {own cls text : String} {names : List String} {ik is ic mc ms sa : Nat} {A : Nat → Prop}
    (hown : s.vm.findClass own = some m.cls) (hcls : Bundle.fit cls = true) (hnames : ∀ n ∈ names, Bundle.fit n = true)
    (hk : (Cond.classLink own ik cls).before args s = true) (hini : (Cond.initialized cls).before args s = true) (hstr : vk_R own is text sa s) (hat : ∀ w ∈ vx_atS own ic cls names, w.before args s = true)
    (hgood : ∀ w ∈ Cond.classLink own ik cls :: Cond.initialized cls :: vx_atS own ic cls names, vx_ot w = true)
    (hU : vx_Zq Bundle.tN "UNASSIGNED_STACK" Bundle.steD A s s.heap) (hN : vx_Zq Bundle.tN "SUPPRESSED_SENTINEL" Bundle.listD A s s.heap) (hS : va_S A s.heap H locs) (hsize : ls.size = c.maxLocals)
    (d0 : decode cc pc = .ok (.new ik, 3)) (d3 : decode cc (pc + 3) = .ok (.dup, 1)) (d4 : decode cc (pc + 4) = .ok (.ldc_w is, 3)) (d7 : decode cc (pc + 7) = .ok (.invokespecial ic, 3)) (d10 : decode cc (pc + 10) = .ok (.athrow, 1))
    (hout : ∀ x ∈ c.exceptionTable.toList, covers x (pc + 10) = false)
    (hRframes : names.length + 3 < R.frames) (hRlocals : (rest.map fun v => v.category).sum + (13 * (names.length + 1) + 43) ≤ R.locals) (hRcells : cells + 1 ≤ R.cells) (hRslots : slots + 6 ≤ R.slots) (hlocks : meth.locks = false)
    (hx : ∀ t : State, s.vm.Alike t.vm → H.size ≤ t.heap.size → (∀ q : Nat, q < H.size → t.heap[q]? = H[q]?) → XC cls s t)
    (hf : ∀ z ∈ locs, free z.base) (hc : cells + 1 ≤ mc) (hs : slots + 6 ≤ ms) :
    W p l e R s m args below meth c H locs cells slots (vx_MQ below Qc XC args s mc ms free) (F0 m pc ls rest) := by
  intro T hT X
  have htr : e.platform.stackTraces = false := (show e.platform.stackTraces = l.stackTraces by rw [X.admits.platform]).trans hl
  have Y := vx_rebase X (R' := { frames := R.frames, locals := R.locals, cells := 1, slots := 6 }) (Nat.le_refl _) (Nat.le_refl _) hRcells hRslots
  obtain ⟨s', hA⟩ : ∃ z, z = (T.setVm s.vm).setFrames (.invoking m args :: below) := ⟨_, rfl⟩
  rw [← hA] at Y
  have hvm : s'.vm = s.vm := by rw [hA]; rfl
  have hhp : s'.heap = H := by rw [hA]; exact hT
  have hW0 : s.WarmedH s'.vm := by rw [hvm]; exact State.WarmedH.refl s
  have hat' : ∀ w ∈ vx_atS own ic cls names, w.before args s' = true := fun w hw => vx_ot_at hW0 hvm.symm (hgood w (List.mem_cons_of_mem _ (List.mem_cons_of_mem _ hw))) (hat w hw)
  have hk' : (Cond.classLink own ik cls).before args s' = true := vx_ot_at hW0 hvm.symm (hgood _ List.mem_cons_self) hk
  have hini' : (Cond.initialized cls).before args s' = true := vx_ot_at hW0 hvm.symm (hgood _ (List.mem_cons_of_mem _ List.mem_cons_self)) hini
  have hU' : vx_Zq Bundle.tN "UNASSIGNED_STACK" Bundle.steD A s' s'.heap := by rw [hhp]; exact vx_Zq.moved hW0.alike (hU.kept hS.2.1)
  have hN' : vx_Zq Bundle.tN "SUPPRESSED_SENTINEL" Bundle.listD A s' s'.heap := by rw [hhp]; exact vx_Zq.moved hW0.alike (hN.kept hS.2.1)
  have h : ∀ w ∈ Bundle.ownAtoms own ic cls names, w.before args s' = true := vx_own hat' (vx_isRefq hU'.1) (vx_isRefq hN'.1) hU'.2.word hN'.2.word
  have hown' : s'.vm.findClass own = some m.cls := by rw [hvm]; exact hown
  have hins : (Cond.instantiable cls 6).before args s' = true := h _ (by simp [Bundle.ownAtoms])
  obtain ⟨vm₁, cX, kX, hfX, hkX, -, -, X₁, st1⟩ := Y.newCold hexec (own := own) (C := cls) (index := ik) (n := 6) hown' hk' hins hini'
    (g := F0 m pc ls rest) rfl (by rw [hb]; exact d0) (Nat.le_refl _) (Nat.le_refl _)
  generalize hT1 : (T.setVm vm₁).pushCell { cls := cX, slots := kX.instanceTypes.map defaultValue, vm := .none } = T1 at X₁ st1
  have hcat : (Value.ref T.heap.size).category = 1 := rfl
  have hcellA : T1.heap[T.heap.size]? = some (freshCell cX kX) := by rw [← hT1]; exact State.heap_pushCell_size _ _
  have d3' : decode c.code (pc + 3) = .ok (.dup, 1) := by rw [hb]; exact d3
  have d4' : decode c.code (pc + 4) = .ok (.ldc_w is, 3) := by rw [hb]; exact d4
  have hstr' : vk_R own is text sa s' := vk_R.warm hW0 hstr
  obtain ⟨U, hsteps, hrun, hend, hW, hsame, ce, hce, hO⟩ := X₁.ctorThrowS hexec htr (own := own) (cls := cls) (names := names) (ic := ic) hown' hcls hnames h (fun x hx => nomatch hx) hfX hkX hcellA (by rw [hhp, hT]; exact Nat.le_refl _) (msg := .ref sa) rfl
    (g := { method := m, pc := pc + 7, locals := ls, stack := .ref sa :: .ref T.heap.size :: .ref T.heap.size :: rest, locked := none }) rfl hsize rfl rfl (rest := rest) rfl
    (by rw [hb]; exact d7) (by rw [hb]; exact d10) hout hRframes (by simp only [List.map_cons, List.sum_cons, hcat]; omega) hlocks
  obtain ⟨f1, f2⟩ := vx_frame hsame
  rw [hhp] at f1 f2
  have hWs : s.WarmedH U.vm := State.WarmedH.trans hW0 hW
  have hcl : s.vm.findClass cls = some ce.cls := by
    have h9 := hO.cls
    rw [hvm] at h9
    exact h9
  have hall : s.sameButNew ({ U with vm := s.vm } : State) locs mc ms := by
    subst hA
    obtain ⟨e1, e2⟩ := hsame
    rw [State.setFrames_setFrames] at e1
    have h2 : (T.setVm s.vm).sameButNew ({ U with vm := s.vm } : State) [] (0 + 1) (0 + 6) := ⟨e1, e2⟩
    have h3 := X.same.trans h2
    rw [List.append_nil] at h3
    exact h3.mono hc hs
  refine ⟨U, ?_, .threw T.heap.size, hrun, hend, Or.inr ⟨T.heap.size, rfl, cls, ce, locs, hx U hWs.alike f1 (fun q hq => f2 q hq (fun z hz => nomatch hz)), hce, hO.vm, hcl, hWs, hall, hf⟩⟩
  refine st1 _ ?_
  show Steps p.tables e below (T1.setTop { method := m, pc := pc + 3, locals := ls, stack := .ref T.heap.size :: rest, locked := none }) _
  jvm_step X₁.here [X₁.here.top, hexec, d3', Value.category]
  exact X₁.ldcStringW hexec (own := own) (text := text) (index := is) (a := sa) hown' hstr'.1 hstr'.2
    (g := { method := m, pc := pc + 4, locals := ls, stack := .ref T.heap.size :: .ref T.heap.size :: rest, locked := none }) rfl d4' _ hsteps
end Ends
section Bodies
variable {l : Launch}
theorem vx_ofW {y : MethodName} {ws ws' : List Cond} {rm : Room} {Pc : Array Value → State → Prop} {Qc : Array Value → State → Outcome → State → Prop} {XC : String → State → State → Prop} {mc ms : Nat} {free : Addr → Prop} {cc : ByteArray} {maxL : Nat} {ret : Option FieldType}
    (hy : plainName y.cls = true) (hw : ws = Cond.code y cc maxL ret :: ws')
    (body : ∀ p e s m args below meth c s₁, BodyLoose p l y (headSpec ws rm) cc maxL ret e s m args below meth c s₁ → c.maxLocals = maxL → (∀ x ∈ c.exceptionTable.toList, False) → Pc args s →
      W p l e (headSpec ws rm).room s m args below meth c s.heap [] 0 0 (vx_MQ below Qc XC args s mc ms free) (entryFrame m args maxL)) : vx_Met l y ws rm Pc Qc XC mc ms free := by
  refine MetFree.of_bodyS (code := cc) (maxLocals := maxL) (ret := ret) hy ?_ ?_
  · intro args s m h hn
    obtain ⟨meth, c, h1, h2, h3, h4, h5, h6, -, -⟩ := Cond.code_spec hn (atoms_spec (ws := ws) h _ (by rw [hw]; exact List.mem_cons_self))
    exact ⟨meth, c, h1, h2, h3, h4, h5, h6⟩
  · intro p e s m args below meth c s₁ B hml hP _
    have hh0 : s₁.heap = s.heap := by rw [B.state]; rfl
    have ht : ∀ x ∈ c.exceptionTable.toList, False := by
      obtain ⟨meth9, c9, h1, h2, -, -, -, -, h7, -⟩ := Cond.code_spec B.named (atoms_spec (ws := ws) B.pre _ (by rw [hw]; exact List.mem_cons_self))
      cases Option.some.inj (h1.symm.trans B.method)
      cases Option.some.inj (h2.symm.trans (Stand.of_body B).code)
      intro x hx
      rw [Array.isEmpty_iff.mp h7] at hx
      cases hx
    obtain ⟨t, a1, o, b1, b2, b3⟩ := body p e s m args below meth c s₁ B hml ht hP s₁ hh0 (Stand.of_body B)
    exact ⟨t, o, a1, b1, b2, b3⟩
/-- the table of a body with handlers -/
theorem vx_table {p : Program} {x y : MethodName} {S : Spec} {cc bytes : ByteArray} {maxL maxL' : Nat} {ret ret' : Option FieldType} {e : Env} {s s₁ : State} {m : MethodId} {args : Array Value} {below : List Frame} {meth : Method} {c : Code} {hh : List (Nat × Nat × Nat × Nat)}
    (B : BodyLoose p l y S cc maxL ret e s m args below meth c s₁) (h : (Cond.codeWith y bytes maxL' ret' hh).before args s = true) : c.exceptionTable.toList = tableOf hh := by
  obtain ⟨m9, meth9, c9, hn9, h1, h2, -, -, h6, -⟩ := Cond.codeWith_spec h
  cases Option.some.inj (hn9.symm.trans B.named)
  cases Option.some.inj (h1.symm.trans B.method)
  cases Option.some.inj (h2.symm.trans (Stand.of_body B).code)
  rw [← h6, table_eq]
end Bodies
end VXA
/-! ===== END ===== -/
/-! ===== BEGIN a static call of a method with an exception table ===== -/
section VXS
variable {p : Program} {l : Launch} {e : Env} {R : Room} {s : State} {m : MethodId} {args : Array Value} {below : List Frame} {meth : Method} {c : Code} {T : State} {H : Heap} {locs : List Loc} {cells slots : Nat}
abbrev vx_CSW (R : Room) (s : State) (args : Array Value) (own : String) (index : Nat) (y : MethodName) (bytes : ByteArray) (maxL : Nat) (ret : Option FieldType) (hh : List (Nat × Nat × Nat × Nat)) (ws : List Cond) (rm : Room) (mc ms n : Nat) : Prop :=
  (rm.cells = mc ∧ rm.slots = ms ∧ rm.frames + 1 ≤ R.frames ∧ 8 + (maxL + 11) + rm.locals ≤ R.locals ∧ (∀ w ∈ ws, ∀ (a' : Array Value) (U : State), s.WarmedH U.vm → w.before a' U = true) ∧ Cond.codeWith y bytes maxL ret hh ∈ ws) ∧
  (Cond.codeWith y bytes maxL ret hh).before args s = true ∧ (Cond.initialized y.cls).before args s = true ∧ (y.cls ≠ "java/lang/invoke/MethodHandle" ∧ y.cls ≠ "java/lang/invoke/VarHandle") ∧
  (∀ sig, parseMethodDescriptor y.desc = some sig → n = sig.parameters.length) ∧ (Cond.methodLink own index y).before args s = true ∧ (Cond.static y).before args s = true
theorem vx_cwSW {own : String} {index maxL mc ms : Nat} {y : MethodName} {bytes : ByteArray} {ret : Option FieldType} {hh : List (Nat × Nat × Nat × Nat)} {Ts ws ws' : List Cond} {rm : Room} (n : Nat) (ht : ∀ w ∈ Ts, w.before args s = true) (hT : GoodIn Ts (va_wsS own index y ws)) (hw : ws = Cond.codeWith y bytes maxL ret hh :: ws') (hrc : rm.cells = mc) (hrs : rm.slots = ms)
    (hd : y.cls ≠ "java/lang/invoke/MethodHandle" ∧ y.cls ≠ "java/lang/invoke/VarHandle" ∧ (parseMethodDescriptor y.desc).map (fun d => d.parameters.length) = some n) (hR : rm.frames + 1 ≤ R.frames ∧ 8 + (maxL + 11) + rm.locals ≤ R.locals) :
    vx_CSW R s args own index y bytes maxL ret hh ws rm mc ms n := by
  have ok : ∀ w ∈ va_wsS own index y ws, w.before args s = true := fun w h => ht w (hT w h).1
  have hG : GoodIn Ts ws := fun w h => hT w (by unfold va_wsS; exact List.mem_append_right _ h)
  have hc : Cond.codeWith y bytes maxL ret hh ∈ ws := by rw [hw]; exact List.mem_cons_self
  refine ⟨⟨hrc, hrs, hR.1, hR.2, pay_in ht hG, hc⟩, ht _ (hG _ hc).1, ok _ (by simp [va_wsS]), ⟨hd.1, hd.2.1⟩, fun sig h => ?_, ok _ (by simp [va_wsS]), ok _ (by simp [va_wsS])⟩
  have h2 := hd.2.2
  rw [h] at h2
  exact (Option.some.inj h2).symm
theorem vx_callSW (X : Stand p l e R s m args below meth c T locs cells slots) (hexec : p.tables.exec = Jvm.exec) {own : String} {index : Nat} {y : MethodName} {bytes : ByteArray} {maxL : Nat} {ret : Option FieldType} {hh : List (Nat × Nat × Nat × Nat)}
    (hown : s.vm.findClass own = some m.cls) (hlink : (Cond.methodLink own index y).before args s = true) (hstat : (Cond.static y).before args s = true) (hinit : (Cond.initialized y.cls).before args s = true)
    (hcode : (Cond.codeWith y bytes maxL ret hh).before args s = true) (hy : y.cls ≠ "java/lang/invoke/MethodHandle" ∧ y.cls ≠ "java/lang/invoke/VarHandle")
    {W9 : Nat} {Pre : Pt → Array Value → Prop} {Post : Pt → Array Value → Option Value → Pt → Prop} (hK : Back l R p e below s args y 3 W9 Pre Post)
    {g : JFrame} (hg : g.method = m) (hsize : g.locals.size = c.maxLocals) {argsL rest : List Value} (hlen : ∀ sig, parseMethodDescriptor y.desc = some sig → argsL.length = sig.parameters.length)
    (hstack : g.stack = argsL.reverse ++ rest) (hW : 2 * g.monitorRoom + (rest.map fun v => v.category).sum ≤ W9) (hdg : decode c.code g.pc = .ok (.invokestatic index, 3))
    (hpre : ∀ vm₁, s.WarmedH vm₁ → Pre ⟨T.setVm vm₁, locs, cells, slots⟩ argsL.toArray) :
    ∃ (v : Option Value) (vm₁ : Vm) (B : Pt), s.WarmedH vm₁ ∧ Stand p l e R s m args below meth c B.U B.locs B.cells B.slots ∧ Post ⟨T.setVm vm₁, locs, cells, slots⟩ argsL.toArray v B ∧
      ∀ target, Steps p.tables e below (B.U.setTop { g with pc := g.pc + 3, stack := v.toList ++ rest }) target → Steps p.tables e below (T.setTop g) target := by
  obtain ⟨mk, methM, cM, hnamed, hmethM, -, -, -, -, -, -, hsigM⟩ := Cond.codeWith_spec hcode
  have hstatic : methM.isStatic = true := Cond.static_spec hnamed hmethM hstat
  obtain ⟨kP, hkP, -⟩ := className_of_methodNamed hnamed
  have hinitP : kP.init = .initialized := Cond.initialized_spec (findClass_of_methodNamed hnamed) hkP hinit
  obtain ⟨vm₁, X₁, hstep₁⟩ := X.invokestatic hexec hown hlink hnamed hmethM hstatic hkP hinitP hy (g := g) hg (argsL := argsL) (rest := rest) (hlen _ hsigM) hstack hdg
  obtain ⟨v, B, X', hpost, hsteps⟩ := hK m meth c ⟨T.setVm vm₁, locs, cells, slots⟩ { g with stack := rest } (.invokestatic index) mk argsL.toArray X₁ hg hsize hdg hW (X₁.named hnamed) (hpre vm₁ X₁.warmed)
  exact ⟨v, vm₁, B, X₁.warmed, X', hpost, fun target h => hstep₁ _ fun acts => by rw [doInvoke_state]; exact hsteps.trans h⟩
theorem vx_runSW {y : MethodName} {bytes cc : ByteArray} {maxL nL mc ms n index : Nat} {ret : Option FieldType} {hh : List (Nat × Nat × Nat × Nat)} {ws : List Cond} {rm : Room} {Pc : Array Value → State → Prop} {Qc : Array Value → State → Outcome → State → Prop} {free : Addr → Prop} {Ts : List Cond} {own : String} {As rest : List Value} {g : JFrame}
    (S : CallFix p m c cc nL s args Ts own) (hM : Met l y ws rm Pc Qc mc ms free) (cw : vx_CSW R s args own index y bytes maxL ret hh ws rm mc ms n) (hp : PreS s H Pc As)
    (hg : g.method = m) (hn : As.length = n) (hsize : g.locals.size = nL) (hstack : g.stack = As.reverse ++ rest) (hW : 2 * g.monitorRoom + (rest.map fun v => v.category).sum ≤ 8) (hdg : decode cc g.pc = .ok (.invokestatic index, 3)) (hf : cells + mc ≤ R.cells ∧ slots + ms ≤ R.slots) :
    va_Run p l e R s m args below meth c H locs cells slots mc ms g rest (Qc As.toArray) (free) := by
  obtain ⟨⟨hrc, hrs, hfr, hlo, hws, hcw⟩, hcode, hini, hy, hlen, hl, hstt⟩ := cw
  have hK : Back l R p e below s args y 3 8 (PreOf R mc ms Pc) (PostOf Qc mc ms free) := va_backW (hh := hh) (bytes := bytes) (maxL := maxL) (ret := ret) hM hp.1 hrc hrs hfr hlo hws hcw (fun a' U hW => word_at hW (Or.inl (by first | rfl | simp [Cond.onTables, Cond.keeps, Cond.steady])) hini)
  obtain ⟨hx, hb, hml, ho, -⟩ := S
  intro T hT X
  obtain ⟨v, vm₁, ⟨U', l2, c2, s2⟩, hW₁, X', ⟨g', mk, t, L, e1, e2, hq, h1, hL, h2, h3⟩, st⟩ := vx_callSW X hx (hh := hh) (bytes := bytes) (maxL := maxL) (ret := ret) ho hl hstt hini hcode hy hK hg (hsize.trans hml.symm) (argsL := As) (rest := rest) (fun sig h => hn.trans (hlen sig h)) hstack hW (by rw [hb]; exact hdg)
    (fun vm₁ hW₁ => ⟨hf.1, hf.2, hp.2 (T.setVm vm₁) hT hW₁⟩)
  dsimp only [Pt.U, Pt.locs, Pt.cells, Pt.slots] at X' e1 e2 h1 h2 h3 st
  subst h1; subst h2; subst h3
  exact ⟨v, (T.setVm vm₁).calling g' mk As.toArray, t, U', L, hT, X', hL, e1, e2, hq, st⟩
/-- a thing of a world lies in the heap -/
theorem vx_lt {D : va_G} {cl : List vw_C} {ws : va_W} {H1 : Heap} (h : va_P D cl ws H1) {k : Nat} {q : Nat × va_E} (hk : ws[k]? = some q) : q.1 < H1.size := (h k q hk).lt
end VXS
/-! ===== END ===== -/
/-! ===== BEGIN methods with a table of their own: called by a name, returning or throwing ===== -/
section VXH
/-! vx_backW, vx_callVX, vx_callSX, vx_callVW, vx_runVW, vx_runVX, vx_runSX, vx_ofWH follow the same proofs as their sisters above (Free/Laws.lean, Shelf42/LK1.lean); vx_outP calls Shelf42/NT130.lean (outThrough). -/
section
variable {l : Launch} {R : Room} {p : Program} {e : Env} {below : List Frame} {s : State} {sargs : Array Value} {y : MethodName} {len W9 : Nat}
theorem vx_backW {ws : List Cond} {rm : Room} {Pc : Array Value → State → Prop} {Qc : Array Value → State → Outcome → State → Prop} {XC : String → State → State → Prop} {mc ms : Nat} {free : Addr → Prop} {bytes : ByteArray} {maxL : Nat} {ret : Option FieldType} {hh : List (Nat × Nat × Nat × Nat)}
    (hM : vx_Met l y ws rm Pc Qc XC mc ms free) (hblind : FrameBlind Pc) (hrc : rm.cells = mc) (hrs : rm.slots = ms)
    (hframes : rm.frames + 1 ≤ R.frames) (hlocals : W9 + (maxL + 11) + rm.locals ≤ R.locals)
    (hws : ∀ w ∈ ws, ∀ a' U, s.WarmedH U.vm → w.before a' U = true) (hcode : Cond.codeWith y bytes maxL ret hh ∈ ws) (hinit : ∀ a' U, s.WarmedH U.vm → (Cond.initialized y.cls).before a' U = true) :
    vx_Back l R p e below s sargs y len W9 (PreOf R mc ms Pc) (PostOf Qc mc ms free) (vx_Post XC mc ms free) := by
  intro m meth c A g ig mk a X hg hsize hdg hW hn hp
  have h1 : (headSpec ws rm).pre.before a A.U = true := atoms_intro fun w hw => hws w hw _ _ X.warmed
  have h2 : (Cond.codeWith y bytes maxL ret hh).before a A.U = true := hws _ hcode _ _ X.warmed
  have h3 : (Cond.initialized y.cls).before a A.U = true := hinit _ _ X.warmed
  have h4 : A.cells + (headSpec ws rm).room.cells ≤ R.cells := by rw [show (headSpec ws rm).room.cells = mc from hrc]; exact hp.1
  have h5 : A.slots + (headSpec ws rm).room.slots ≤ R.slots := by rw [show (headSpec ws rm).room.slots = ms from hrs]; exact hp.2.1
  have hPc : Pc a (A.U.calling g mk a) := hblind _ _ _ _ hp.2.2
  obtain ⟨U, Ls, c0, s0⟩ := A
  dsimp only [Pt.U, Pt.locs, Pt.cells, Pt.slots] at h1 h2 h3 h4 h5 X hn hPc ⊢
  obtain ⟨m9, methY, cY, hn9, hmY, hcY, -, hlY, -⟩ := Cond.codeWith_spec h2
  cases Option.some.inj (hn9.symm.trans hn)
  obtain ⟨kY, hkY, -⟩ := className_of_methodNamed hn
  have hinitY : kY.init = .initialized := Cond.initialized_spec (findClass_of_methodNamed hn) hkY h3
  have h : At U g.method c below := by rw [hg]; exact X.here
  have hlocals9 : W9 + (maxL + 11) + (headSpec ws rm).room.locals ≤ R.locals := hlocals
  have happ : (headSpec ws rm).appliesLoose y e.platform (U.calling g mk a) = true :=
    Spec.appliesLoose_calling (g := g) h hdg hn hkY hinitY
      (X.room_calling (g := g) (R' := (headSpec ws rm).room) hsize hmY hcY hframes (by rw [hlY]; omega) h4 h5) h1
  obtain ⟨mid, hmid⟩ := h.above
  have hfr : (U.setTop g).frames = (.java g :: mid) ++ below := by rw [State.frames_setTop' g h.top, hmid]; rfl
  obtain ⟨o, s₂, hsteps, -, hend, hq⟩ := Steps.callFree hM p X.admits X.cas X.clock (acts := []) hfr happ hPc trivial
  have hq' : vx_Q Qc XC mc ms free a (U.calling g mk a) o s₂ := hq
  rw [State.frames_setTop' g h.top] at hend
  obtain ⟨g₀, hg0⟩ := Option.isSome_iff_exists.mp h.top
  obtain ⟨r, hr⟩ := State.topJava?_eq_some.mp hg0
  have hr' : (({ U with heap := s₂.heap, slotsUsed := s₂.slotsUsed } : State).setVm s₂.vm).frames = .java g₀ :: r := hr
  rcases hq' with ⟨hqc, L, hfe, hL⟩ | ⟨q, rfl, E, ce, L, hx, hce, hcv, hcl, hW₂, hsm, hL⟩
  · obtain ⟨⟨v, rfl⟩, hW₂, e2, q2, q3, q4, q5, q6⟩ := id hfe
    have e3 : s₂ = ({ (U.calling g mk a).setFrames s₂.frames with heap := s₂.heap, slotsUsed := s₂.slotsUsed } : State).setVm s₂.vm := by
      have : s₂ = ({ s₂ with vm := (U.calling g mk a).vm } : State).setVm s₂.vm := rfl
      rw [e2] at this
      exact this
    obtain ⟨c₂, i₂, len₂, hc₂, hd₂, hf₂⟩ := hend
    have hW' : U.WarmedH s₂.vm := hW₂
    have hcc : c₂ = c := by
      have h1 : s₂.code? g.method = U.code? g.method := by
        rw [State.code?_eq, State.code?_eq, hW'.alike.method?]
      exact Option.some.inj (hc₂.symm.trans (h1.trans h.code))
    subst hcc
    have hlen : len₂ = len := by rw [hdg] at hd₂; cases hd₂; rfl
    subst hlen
    have hs₂ : s₂ = (({ U with heap := s₂.heap, slotsUsed := s₂.slotsUsed } : State).setVm s₂.vm).setTop { g with pc := g.pc + len₂, stack := v.toList ++ g.stack } := by
      refine e3.trans ?_
      rw [hf₂, State.calling_eq h.top, State.setFrames_setFrames, State.setTop_of_frames _ hr', hr]
      rfl
    have hsame : U.sameButNew ({ U with heap := s₂.heap, slotsUsed := s₂.slotsUsed } : State) L mc ms := by
      refine ⟨?_, q2, q3, q4, q5, q6⟩
      obtain ⟨t, ht, -⟩ := State.frames_cons hr
      show ({ U with heap := s₂.heap, slotsUsed := s₂.slotsUsed } : State) = { U.setFrames U.frames with heap := s₂.heap, slotsUsed := s₂.slotsUsed }
      rw [State.setFrames_self ht]
    subst hg
    refine Or.inl ⟨v, ⟨(({ U with heap := s₂.heap, slotsUsed := s₂.slotsUsed } : State).setVm s₂.vm), Ls ++ L, c0 + mc, s0 + ms⟩,
      ⟨X.admits, X.cas, X.clock, X.frames, X.room, X.hears, X.method, X.code, (X.here.setHeapUsed s₂.heap s₂.slotsUsed).setVm hW'.alike, X.tail, State.WarmedH.trans X.warmed hW', X.limits, X.bytes, X.same.trans (hsame.setVm s.vm)⟩,
      ⟨g, mk, s₂, L, rfl, rfl, hqc, rfl, hL, rfl, rfl⟩, ?_⟩
    show Steps p.tables e below _ ((({ U with heap := s₂.heap, slotsUsed := s₂.slotsUsed } : State).setVm s₂.vm).setTop { g with pc := g.pc + len₂, stack := v.toList ++ g.stack })
    rw [← hs₂]
    exact hsteps
  · obtain ⟨e2, q2, q3, q4, q5, q6⟩ := id hsm
    have e3 : s₂ = ({ (U.calling g mk a).setFrames s₂.frames with heap := s₂.heap, slotsUsed := s₂.slotsUsed } : State).setVm s₂.vm := by
      have : s₂ = ({ s₂ with vm := (U.calling g mk a).vm } : State).setVm s₂.vm := rfl
      rw [e2] at this
      exact this
    have hf₂ : s₂.frames = .throwing q :: .java g :: U.frames.tail := hend
    have hW' : U.WarmedH s₂.vm := hW₂
    have hs₂ : s₂ = ((({ U with heap := s₂.heap, slotsUsed := s₂.slotsUsed } : State).setVm s₂.vm).setTop g).pushFrame (.throwing q) := by
      refine e3.trans ?_
      rw [hf₂, State.calling_eq h.top, State.setFrames_setFrames, State.pushFrame, State.frames_setTop _ hr', State.setTop_of_frames _ hr', State.setFrames_setFrames, hr]
      rfl
    have hsame : U.sameButNew ({ U with heap := s₂.heap, slotsUsed := s₂.slotsUsed } : State) L mc ms := by
      refine ⟨?_, q2, q3, q4, q5, q6⟩
      obtain ⟨t, ht, -⟩ := State.frames_cons hr
      show ({ U with heap := s₂.heap, slotsUsed := s₂.slotsUsed } : State) = { U.setFrames U.frames with heap := s₂.heap, slotsUsed := s₂.slotsUsed }
      rw [State.setFrames_self ht]
    subst hg
    refine Or.inr ⟨q, ⟨(({ U with heap := s₂.heap, slotsUsed := s₂.slotsUsed } : State).setVm s₂.vm), Ls ++ L, c0 + mc, s0 + ms⟩,
      ⟨X.admits, X.cas, X.clock, X.frames, X.room, X.hears, X.method, X.code, (X.here.setHeapUsed s₂.heap s₂.slotsUsed).setVm hW'.alike, X.tail, State.WarmedH.trans X.warmed hW', X.limits, X.bytes, X.same.trans (hsame.setVm s.vm)⟩,
      ⟨g, mk, s₂, L, E, ce, rfl, rfl, hx, hce, hcv, hcl, rfl, hL, rfl, rfl⟩, ?_⟩
    show Steps p.tables e below _ (((({ U with heap := s₂.heap, slotsUsed := s₂.slotsUsed } : State).setVm s₂.vm).setTop g).pushFrame (.throwing q))
    rw [← hs₂]
    exact hsteps
end
variable {p : Program} {l : Launch} {e : Env} {R : Room} {s : State} {m : MethodId} {args : Array Value} {below : List Frame} {meth : Method} {c : Code} {T : State} {H : Heap} {locs : List Loc} {cells slots : Nat}
theorem vx_callVX (X : Stand p l e R s m args below meth c T locs cells slots) (hexec : p.tables.exec = Jvm.exec) {own C : String} {index : Nat} {y : MethodName} {bytes : ByteArray} {maxL : Nat} {ret : Option FieldType} {hh : List (Nat × Nat × Nat × Nat)}
    (hown : s.vm.findClass own = some m.cls) (hlink : (Cond.methodLink own index y).before args s = true) (hinst : (Cond.instanceMethod y).before args s = true) (hsel : (Cond.selects C y y).before args s = true)
    (hcode : (Cond.codeWith y bytes maxL ret hh).before args s = true) (hy : y.cls ≠ "java/lang/invoke/MethodHandle" ∧ y.cls ≠ "java/lang/invoke/VarHandle")
    {W9 : Nat} {Pre : Pt → Array Value → Prop} {Post : Pt → Array Value → Option Value → Pt → Prop} {PostX : Pt → Array Value → Addr → Pt → Prop} (hK : vx_Back l R p e below s args y 3 W9 Pre Post PostX)
    {b : Addr} {cellB : Cell} (hcell : T.heap[b]? = some cellB) (hobj : cellB.vm.isStatics = false) (hcls : s.vm.findClass C = some cellB.cls)
    {g : JFrame} (hg : g.method = m) (hsize : g.locals.size = c.maxLocals) {argsL rest : List Value} (hlen : ∀ sig, parseMethodDescriptor y.desc = some sig → argsL.length = sig.parameters.length)
    (hstack : g.stack = argsL.reverse ++ .ref b :: rest) (hW : 2 * g.monitorRoom + (rest.map fun v => v.category).sum ≤ W9) (hdg : decode c.code g.pc = .ok (.invokevirtual index, 3))
    (hpre : ∀ vm₁, s.WarmedH vm₁ → Pre ⟨T.setVm vm₁, locs, cells, slots⟩ (Value.ref b :: argsL).toArray) :
    (∃ (v : Option Value) (vm₁ : Vm) (B : Pt), s.WarmedH vm₁ ∧ Stand p l e R s m args below meth c B.U B.locs B.cells B.slots ∧ Post ⟨T.setVm vm₁, locs, cells, slots⟩ (Value.ref b :: argsL).toArray v B ∧
      ∀ target, Steps p.tables e below (B.U.setTop { g with pc := g.pc + 3, stack := v.toList ++ rest }) target → Steps p.tables e below (T.setTop g) target) ∨
    (∃ (q : Addr) (vm₁ : Vm) (B : Pt), s.WarmedH vm₁ ∧ Stand p l e R s m args below meth c B.U B.locs B.cells B.slots ∧ PostX ⟨T.setVm vm₁, locs, cells, slots⟩ (Value.ref b :: argsL).toArray q B ∧
      Steps p.tables e below (T.setTop g) ((B.U.setTop { g with stack := rest }).pushFrame (.throwing q))) := by
  obtain ⟨mk, methM, hnamed, hmethM, hstM, habM⟩ := Cond.instanceMethod_spec hinst
  obtain ⟨m8, methM', cM, hn8, hmethM', -, -, -, -, -, -, hsigM⟩ := Cond.codeWith_spec hcode
  cases Option.some.inj (hn8.symm.trans hnamed)
  cases hmethM.symm.trans hmethM'
  obtain ⟨c2, r2, m2, q1, q2, q3, q4, kP, hkP, hkPi⟩ := Cond.selects_spec hsel
  cases hcls.symm.trans q1
  cases (State.methodFound?_of_named hnamed hy).symm.trans q2
  cases hnamed.symm.trans q3
  have hselP : selectMethod e.platform s.vm cellB.cls mk = .method mk := by rw [Launch.admits_selectMethod X.admits]; exact q4
  obtain ⟨vm₁, X₁, hstep₁⟩ := X.invokevirtual hexec hown hlink hnamed hmethM hstM hkP hkPi hy (a := b) (cell := cellB) hcell
    (fun z h => by rw [h] at hobj; cases hobj) hselP hmethM habM hkP hkPi (g := g) hg (argsL := argsL) (rest := rest) (hlen _ hsigM) hstack hdg
  rcases hK m meth c ⟨T.setVm vm₁, locs, cells, slots⟩ { g with stack := rest } (.invokevirtual index) mk (Value.ref b :: argsL).toArray X₁ hg hsize hdg hW (X₁.named hnamed) (hpre vm₁ X₁.warmed) with ⟨v, B, X', hpost, hsteps⟩ | ⟨q, B, X', hpost, hsteps⟩
  · exact Or.inl ⟨v, vm₁, B, X₁.warmed, X', hpost, fun target h => hstep₁ _ fun acts => by rw [doInvoke_state]; exact hsteps.trans h⟩
  · exact Or.inr ⟨q, vm₁, B, X₁.warmed, X', hpost, hstep₁ _ fun acts => by rw [doInvoke_state]; exact hsteps⟩
theorem vx_callSX (X : Stand p l e R s m args below meth c T locs cells slots) (hexec : p.tables.exec = Jvm.exec) {own : String} {index : Nat} {y : MethodName} {bytes : ByteArray} {maxL : Nat} {ret : Option FieldType} {hh : List (Nat × Nat × Nat × Nat)}
    (hown : s.vm.findClass own = some m.cls) (hlink : (Cond.methodLink own index y).before args s = true) (hstat : (Cond.static y).before args s = true) (hinit : (Cond.initialized y.cls).before args s = true)
    (hcode : (Cond.codeWith y bytes maxL ret hh).before args s = true) (hy : y.cls ≠ "java/lang/invoke/MethodHandle" ∧ y.cls ≠ "java/lang/invoke/VarHandle")
    {W9 : Nat} {Pre : Pt → Array Value → Prop} {Post : Pt → Array Value → Option Value → Pt → Prop} {PostX : Pt → Array Value → Addr → Pt → Prop} (hK : vx_Back l R p e below s args y 3 W9 Pre Post PostX)
    {g : JFrame} (hg : g.method = m) (hsize : g.locals.size = c.maxLocals) {argsL rest : List Value} (hlen : ∀ sig, parseMethodDescriptor y.desc = some sig → argsL.length = sig.parameters.length)
    (hstack : g.stack = argsL.reverse ++ rest) (hW : 2 * g.monitorRoom + (rest.map fun v => v.category).sum ≤ W9) (hdg : decode c.code g.pc = .ok (.invokestatic index, 3))
    (hpre : ∀ vm₁, s.WarmedH vm₁ → Pre ⟨T.setVm vm₁, locs, cells, slots⟩ argsL.toArray) :
    (∃ (v : Option Value) (vm₁ : Vm) (B : Pt), s.WarmedH vm₁ ∧ Stand p l e R s m args below meth c B.U B.locs B.cells B.slots ∧ Post ⟨T.setVm vm₁, locs, cells, slots⟩ argsL.toArray v B ∧
      ∀ target, Steps p.tables e below (B.U.setTop { g with pc := g.pc + 3, stack := v.toList ++ rest }) target → Steps p.tables e below (T.setTop g) target) ∨
    (∃ (q : Addr) (vm₁ : Vm) (B : Pt), s.WarmedH vm₁ ∧ Stand p l e R s m args below meth c B.U B.locs B.cells B.slots ∧ PostX ⟨T.setVm vm₁, locs, cells, slots⟩ argsL.toArray q B ∧
      Steps p.tables e below (T.setTop g) ((B.U.setTop { g with stack := rest }).pushFrame (.throwing q))) := by
  obtain ⟨mk, methM, cM, hnamed, hmethM, -, -, -, -, -, -, hsigM⟩ := Cond.codeWith_spec hcode
  have hstatic : methM.isStatic = true := Cond.static_spec hnamed hmethM hstat
  obtain ⟨kP, hkP, -⟩ := className_of_methodNamed hnamed
  have hinitP : kP.init = .initialized := Cond.initialized_spec (findClass_of_methodNamed hnamed) hkP hinit
  obtain ⟨vm₁, X₁, hstep₁⟩ := X.invokestatic hexec hown hlink hnamed hmethM hstatic hkP hinitP hy (g := g) hg (argsL := argsL) (rest := rest) (hlen _ hsigM) hstack hdg
  rcases hK m meth c ⟨T.setVm vm₁, locs, cells, slots⟩ { g with stack := rest } (.invokestatic index) mk argsL.toArray X₁ hg hsize hdg hW (X₁.named hnamed) (hpre vm₁ X₁.warmed) with ⟨v, B, X', hpost, hsteps⟩ | ⟨q, B, X', hpost, hsteps⟩
  · exact Or.inl ⟨v, vm₁, B, X₁.warmed, X', hpost, fun target h => hstep₁ _ fun acts => by rw [doInvoke_state]; exact hsteps.trans h⟩
  · exact Or.inr ⟨q, vm₁, B, X₁.warmed, X', hpost, hstep₁ _ fun acts => by rw [doInvoke_state]; exact hsteps⟩
theorem vx_callVW (X : Stand p l e R s m args below meth c T locs cells slots) (hexec : p.tables.exec = Jvm.exec) {own C : String} {index : Nat} {y : MethodName} {bytes : ByteArray} {maxL : Nat} {ret : Option FieldType} {hh : List (Nat × Nat × Nat × Nat)}
    (hown : s.vm.findClass own = some m.cls) (hlink : (Cond.methodLink own index y).before args s = true) (hinst : (Cond.instanceMethod y).before args s = true) (hsel : (Cond.selects C y y).before args s = true)
    (hcode : (Cond.codeWith y bytes maxL ret hh).before args s = true) (hy : y.cls ≠ "java/lang/invoke/MethodHandle" ∧ y.cls ≠ "java/lang/invoke/VarHandle")
    {W9 : Nat} {Pre : Pt → Array Value → Prop} {Post : Pt → Array Value → Option Value → Pt → Prop} (hK : Back l R p e below s args y 3 W9 Pre Post)
    {b : Addr} {cellB : Cell} (hcell : T.heap[b]? = some cellB) (hobj : cellB.vm.isStatics = false) (hcls : s.vm.findClass C = some cellB.cls)
    {g : JFrame} (hg : g.method = m) (hsize : g.locals.size = c.maxLocals) {argsL rest : List Value} (hlen : ∀ sig, parseMethodDescriptor y.desc = some sig → argsL.length = sig.parameters.length)
    (hstack : g.stack = argsL.reverse ++ .ref b :: rest) (hW : 2 * g.monitorRoom + (rest.map fun v => v.category).sum ≤ W9) (hdg : decode c.code g.pc = .ok (.invokevirtual index, 3))
    (hpre : ∀ vm₁, s.WarmedH vm₁ → Pre ⟨T.setVm vm₁, locs, cells, slots⟩ (Value.ref b :: argsL).toArray) :
    ∃ (v : Option Value) (vm₁ : Vm) (B : Pt), s.WarmedH vm₁ ∧ Stand p l e R s m args below meth c B.U B.locs B.cells B.slots ∧ Post ⟨T.setVm vm₁, locs, cells, slots⟩ (Value.ref b :: argsL).toArray v B ∧
      ∀ target, Steps p.tables e below (B.U.setTop { g with pc := g.pc + 3, stack := v.toList ++ rest }) target → Steps p.tables e below (T.setTop g) target := by
  obtain ⟨mk, methM, hnamed, hmethM, hstM, habM⟩ := Cond.instanceMethod_spec hinst
  obtain ⟨m8, methM', cM, hn8, hmethM', -, -, -, -, -, -, hsigM⟩ := Cond.codeWith_spec hcode
  cases Option.some.inj (hn8.symm.trans hnamed)
  cases hmethM.symm.trans hmethM'
  obtain ⟨c2, r2, m2, q1, q2, q3, q4, kP, hkP, hkPi⟩ := Cond.selects_spec hsel
  cases hcls.symm.trans q1
  cases (State.methodFound?_of_named hnamed hy).symm.trans q2
  cases hnamed.symm.trans q3
  have hselP : selectMethod e.platform s.vm cellB.cls mk = .method mk := by rw [Launch.admits_selectMethod X.admits]; exact q4
  obtain ⟨vm₁, X₁, hstep₁⟩ := X.invokevirtual hexec hown hlink hnamed hmethM hstM hkP hkPi hy (a := b) (cell := cellB) hcell
    (fun z h => by rw [h] at hobj; cases hobj) hselP hmethM habM hkP hkPi (g := g) hg (argsL := argsL) (rest := rest) (hlen _ hsigM) hstack hdg
  obtain ⟨v, B, X', hpost, hsteps⟩ := hK m meth c ⟨T.setVm vm₁, locs, cells, slots⟩ { g with stack := rest } (.invokevirtual index) mk (Value.ref b :: argsL).toArray X₁ hg hsize hdg hW (X₁.named hnamed) (hpre vm₁ X₁.warmed)
  exact ⟨v, vm₁, B, X₁.warmed, X', hpost, fun target h => hstep₁ _ fun acts => by rw [doInvoke_state]; exact hsteps.trans h⟩
abbrev vx_CVW (R : Room) (s : State) (args : Array Value) (own C : String) (index : Nat) (y : MethodName) (bytes : ByteArray) (maxL : Nat) (ret : Option FieldType) (hh : List (Nat × Nat × Nat × Nat)) (ws : List Cond) (rm : Room) (mc ms n : Nat) : Prop :=
  (rm.cells = mc ∧ rm.slots = ms ∧ rm.frames + 1 ≤ R.frames ∧ 8 + (maxL + 11) + rm.locals ≤ R.locals ∧ (∀ w ∈ ws, ∀ (a' : Array Value) (U : State), s.WarmedH U.vm → w.before a' U = true) ∧ Cond.codeWith y bytes maxL ret hh ∈ ws) ∧
  (Cond.codeWith y bytes maxL ret hh).before args s = true ∧ (Cond.initialized y.cls).before args s = true ∧ (y.cls ≠ "java/lang/invoke/MethodHandle" ∧ y.cls ≠ "java/lang/invoke/VarHandle") ∧
  (∀ sig, parseMethodDescriptor y.desc = some sig → n = sig.parameters.length) ∧ (Cond.methodLink own index y).before args s = true ∧ (Cond.instanceMethod y).before args s = true ∧ (Cond.selects C y y).before args s = true
theorem vx_cwVW {own C : String} {index maxL mc ms : Nat} {y : MethodName} {bytes : ByteArray} {ret : Option FieldType} {hh : List (Nat × Nat × Nat × Nat)} {Ts ws ws' : List Cond} {rm : Room} (n : Nat) (ht : ∀ w ∈ Ts, w.before args s = true) (hT : GoodIn Ts (wsV own index C y ws)) (hw : ws = Cond.codeWith y bytes maxL ret hh :: ws') (hrc : rm.cells = mc) (hrs : rm.slots = ms)
    (hd : y.cls = C ∧ y.cls ≠ "java/lang/invoke/MethodHandle" ∧ y.cls ≠ "java/lang/invoke/VarHandle" ∧ (parseMethodDescriptor y.desc).map (fun d => d.parameters.length) = some n) (hR : rm.frames + 1 ≤ R.frames ∧ 8 + (maxL + 11) + rm.locals ≤ R.locals) :
    vx_CVW R s args own C index y bytes maxL ret hh ws rm mc ms n := by
  obtain ⟨hC, hd⟩ := hd
  subst hC
  have ok : ∀ w ∈ wsV own index y.cls y ws, w.before args s = true := fun w h => ht w (hT w h).1
  have hG : GoodIn Ts ws := fun w h => hT w (by unfold wsV; exact List.mem_append_right _ h)
  have hc : Cond.codeWith y bytes maxL ret hh ∈ ws := by rw [hw]; exact List.mem_cons_self
  refine ⟨⟨hrc, hrs, hR.1, hR.2, pay_in ht hG, hc⟩, ht _ (hG _ hc).1, ok _ (by simp [wsV]), ⟨hd.1, hd.2.1⟩, fun sig h => ?_, ok _ (by simp [wsV]), ok _ (by simp [wsV]), ok _ (by simp [wsV])⟩
  have h2 := hd.2.2
  rw [h] at h2
  exact (Option.some.inj h2).symm
theorem vx_runVW {y : MethodName} {bytes cc : ByteArray} {maxL nL mc ms n index : Nat} {ret : Option FieldType} {hh : List (Nat × Nat × Nat × Nat)} {ws : List Cond} {rm : Room} {Pc : Array Value → State → Prop} {Qc : Array Value → State → Outcome → State → Prop} {free : Addr → Prop} {Ts : List Cond} {own C : String} {b : Addr} {As rest : List Value} {g : JFrame}
    (S : CallFix p m c cc nL s args Ts own) (hM : Met l y ws rm Pc Qc mc ms free) (cw : vx_CVW R s args own C index y bytes maxL ret hh ws rm mc ms n) (hp : PreV s H C b Pc As)
    (hg : g.method = m) (hn : As.length = n) (hsize : g.locals.size = nL) (hstack : g.stack = As.reverse ++ .ref b :: rest) (hW : 2 * g.monitorRoom + (rest.map fun v => v.category).sum ≤ 8) (hdg : decode cc g.pc = .ok (.invokevirtual index, 3)) (hf : cells + mc ≤ R.cells ∧ slots + ms ≤ R.slots) :
    va_Run p l e R s m args below meth c H locs cells slots mc ms g rest (Qc (Value.ref b :: As).toArray) free := by
  obtain ⟨⟨hrc, hrs, hfr, hlo, hws, hcw⟩, hcode, hini, hy, hlen, hl, hin, hse⟩ := cw
  have hK : Back l R p e below s args y 3 8 (PreOf R mc ms Pc) (PostOf Qc mc ms free) := va_backW (hh := hh) (bytes := bytes) (maxL := maxL) (ret := ret) hM hp.1 hrc hrs hfr hlo hws hcw (fun a' U hW => word_at hW (Or.inl (by first | rfl | simp [Cond.onTables, Cond.keeps, Cond.steady])) hini)
  obtain ⟨hx, hb, hml, ho, -⟩ := S
  obtain ⟨-, ⟨cellB, hcB, hoB, hclB⟩, hPc⟩ := hp
  intro T hT X
  obtain ⟨v, vm₁, ⟨U', l2, c2, s2⟩, hW₁, X', ⟨g', mk, t, L, e1, e2, hq, h1, hL, h2, h3⟩, st⟩ := vx_callVW X hx (C := C) (hh := hh) (bytes := bytes) (maxL := maxL) (ret := ret) ho hl hin hse hcode hy hK (by rw [hT]; exact hcB) hoB hclB hg (hsize.trans hml.symm) (argsL := As) (rest := rest) (fun sig h => hn.trans (hlen sig h)) hstack hW (by rw [hb]; exact hdg)
    (fun vm₁ hW₁ => ⟨hf.1, hf.2, hPc (T.setVm vm₁) hT hW₁⟩)
  dsimp only [Pt.U, Pt.locs, Pt.cells, Pt.slots] at X' e1 e2 h1 h2 h3 st
  subst h1; subst h2; subst h3
  exact ⟨v, (T.setVm vm₁).calling g' mk (Value.ref b :: As).toArray, t, U', L, hT, X', hL, e1, e2, hq, st⟩
section
variable {y : MethodName} {bytes cc : ByteArray} {maxL nL mc ms n index : Nat} {ret : Option FieldType} {ws : List Cond} {rm : Room} {Pc : Array Value → State → Prop} {Qc : Array Value → State → Outcome → State → Prop} {XC : String → State → State → Prop} {free : Addr → Prop} {Ts : List Cond} {own C : String} {b : Addr} {As rest : List Value} {g : JFrame}
theorem vx_runVX {hh : List (Nat × Nat × Nat × Nat)} (S : CallFix p m c cc nL s args Ts own) (hM : vx_Met l y ws rm Pc Qc XC mc ms free) (cw : vx_CVW R s args own C index y bytes maxL ret hh ws rm mc ms n) (hp : PreV s H C b Pc As)
    (hg : g.method = m) (hn : As.length = n) (hsize : g.locals.size = nL) (hstack : g.stack = As.reverse ++ .ref b :: rest) (hW : 2 * g.monitorRoom + (rest.map fun v => v.category).sum ≤ 8) (hdg : decode cc g.pc = .ok (.invokevirtual index, 3)) (hf : cells + mc ≤ R.cells ∧ slots + ms ≤ R.slots) :
    vx_Run p l e R s m args below meth c H locs cells slots mc ms g rest (Qc (Value.ref b :: As).toArray) XC free := by
  obtain ⟨⟨hrc, hrs, hfr, hlo, hws, hcw⟩, hcode, hini, hy, hlen, hl, hin, hse⟩ := cw
  have hK : vx_Back l R p e below s args y 3 8 (PreOf R mc ms Pc) (PostOf Qc mc ms free) (vx_Post XC mc ms free) := vx_backW (hh := hh) (bytes := bytes) (maxL := maxL) (ret := ret) hM hp.1 hrc hrs hfr hlo hws hcw (fun a' U hW => word_at hW (Or.inl (by first | rfl | simp [Cond.onTables, Cond.keeps, Cond.steady])) hini)
  obtain ⟨hx, hb, hml, ho, -⟩ := S
  obtain ⟨-, ⟨cellB, hcB, hoB, hclB⟩, hPc⟩ := hp
  intro T hT X
  rcases vx_callVX X hx (C := C) (hh := hh) (bytes := bytes) (maxL := maxL) (ret := ret) ho hl hin hse hcode hy hK (by rw [hT]; exact hcB) hoB hclB hg (hsize.trans hml.symm) (argsL := As) (rest := rest) (fun sig h => hn.trans (hlen sig h)) hstack hW (by rw [hb]; exact hdg)
    (fun vm₁ hW₁ => ⟨hf.1, hf.2, hPc (T.setVm vm₁) hT hW₁⟩) with ⟨v, vm₁, ⟨U', l2, c2, s2⟩, hW₁, X', ⟨g', mk, t, L, e1, e2, hq, h1, hL, h2, h3⟩, st⟩ | ⟨q, vm₁, ⟨U', l2, c2, s2⟩, hW₁, X', ⟨g', mk, t, L, E, ce, e1, e2, hq, hce, hcv, hcl, h1, hL, h2, h3⟩, st⟩
  · dsimp only [Pt.U, Pt.locs, Pt.cells, Pt.slots] at X' e1 e2 h1 h2 h3 st
    subst h1; subst h2; subst h3
    exact Or.inl ⟨v, (T.setVm vm₁).calling g' mk (Value.ref b :: As).toArray, t, U', L, hT, X', hL, e1, e2, hq, st⟩
  · dsimp only [Pt.U, Pt.locs, Pt.cells, Pt.slots] at X' e1 e2 h1 h2 h3 st hcl
    subst h1; subst h2; subst h3
    exact Or.inr ⟨q, (T.setVm vm₁).calling g' mk (Value.ref b :: As).toArray, t, U', L, E, ce, hT, X', hL, e1, e2, hq, hce, hcv, vx_cls hW₁ hcl, st⟩
theorem vx_runSX {hh : List (Nat × Nat × Nat × Nat)} (S : CallFix p m c cc nL s args Ts own) (hM : vx_Met l y ws rm Pc Qc XC mc ms free) (cw : vx_CSW R s args own index y bytes maxL ret hh ws rm mc ms n) (hp : PreS s H Pc As)
    (hg : g.method = m) (hn : As.length = n) (hsize : g.locals.size = nL) (hstack : g.stack = As.reverse ++ rest) (hW : 2 * g.monitorRoom + (rest.map fun v => v.category).sum ≤ 8) (hdg : decode cc g.pc = .ok (.invokestatic index, 3)) (hf : cells + mc ≤ R.cells ∧ slots + ms ≤ R.slots) :
    vx_Run p l e R s m args below meth c H locs cells slots mc ms g rest (Qc As.toArray) XC free := by
  obtain ⟨⟨hrc, hrs, hfr, hlo, hws, hcw⟩, hcode, hini, hy, hlen, hl, hstt⟩ := cw
  have hK : vx_Back l R p e below s args y 3 8 (PreOf R mc ms Pc) (PostOf Qc mc ms free) (vx_Post XC mc ms free) := vx_backW (hh := hh) (bytes := bytes) (maxL := maxL) (ret := ret) hM hp.1 hrc hrs hfr hlo hws hcw (fun a' U hW => word_at hW (Or.inl (by first | rfl | simp [Cond.onTables, Cond.keeps, Cond.steady])) hini)
  obtain ⟨hx, hb, hml, ho, -⟩ := S
  intro T hT X
  rcases vx_callSX X hx (hh := hh) (bytes := bytes) (maxL := maxL) (ret := ret) ho hl hstt hini hcode hy hK hg (hsize.trans hml.symm) (argsL := As) (rest := rest) (fun sig h => hn.trans (hlen sig h)) hstack hW (by rw [hb]; exact hdg)
    (fun vm₁ hW₁ => ⟨hf.1, hf.2, hp.2 (T.setVm vm₁) hT hW₁⟩) with ⟨v, vm₁, ⟨U', l2, c2, s2⟩, hW₁, X', ⟨g', mk, t, L, e1, e2, hq, h1, hL, h2, h3⟩, st⟩ | ⟨q, vm₁, ⟨U', l2, c2, s2⟩, hW₁, X', ⟨g', mk, t, L, E, ce, e1, e2, hq, hce, hcv, hcl, h1, hL, h2, h3⟩, st⟩
  · dsimp only [Pt.U, Pt.locs, Pt.cells, Pt.slots] at X' e1 e2 h1 h2 h3 st
    subst h1; subst h2; subst h3
    exact Or.inl ⟨v, (T.setVm vm₁).calling g' mk As.toArray, t, U', L, hT, X', hL, e1, e2, hq, st⟩
  · dsimp only [Pt.U, Pt.locs, Pt.cells, Pt.slots] at X' e1 e2 h1 h2 h3 st hcl
    subst h1; subst h2; subst h3
    exact Or.inr ⟨q, (T.setVm vm₁).calling g' mk As.toArray, t, U', L, E, ce, hT, X', hL, e1, e2, hq, hce, hcv, vx_cls hW₁ hcl, st⟩
end
end VXH
theorem vx_ofWH {l : Launch} {y : MethodName} {ws ws' : List Cond} {rm : Room} {Pc : Array Value → State → Prop} {Qc : Array Value → State → Outcome → State → Prop} {XC : String → State → State → Prop} {mc ms : Nat} {free : Addr → Prop} {cc : ByteArray} {maxL : Nat} {ret : Option FieldType} {hh : List (Nat × Nat × Nat × Nat)}
    (hy : plainName y.cls = true) (hw : ws = Cond.codeWith y cc maxL ret hh :: ws')
    (body : ∀ p e s m args below meth c s₁, BodyLoose p l y (headSpec ws rm) cc maxL ret e s m args below meth c s₁ → c.maxLocals = maxL → Pc args s →
      W p l e (headSpec ws rm).room s m args below meth c s.heap [] 0 0 (vx_MQ below Qc XC args s mc ms free) (entryFrame m args maxL)) : vx_Met l y ws rm Pc Qc XC mc ms free := by
  refine MetFree.of_bodyS (code := cc) (maxLocals := maxL) (ret := ret) hy ?_ ?_
  · intro args s m h hn
    obtain ⟨m9, meth, c, hn9, h1, h2, h3, h4, -, h5, h6, -⟩ := Cond.codeWith_spec (atoms_spec (ws := ws) h _ (by rw [hw]; exact List.mem_cons_self))
    cases hn.symm.trans hn9
    exact ⟨meth, c, h1, h2, h3, h4, h5, h6⟩
  · intro p e s m args below meth c s₁ B hml hP _
    have hh0 : s₁.heap = s.heap := by rw [B.state]; rfl
    obtain ⟨t, a1, o, b1, b2, b3⟩ := body p e s m args below meth c s₁ B hml hP s₁ hh0 (Stand.of_body B)
    exact ⟨t, o, a1, b1, b2, b3⟩
/-! ===== END ===== -/
end
section
/-! ===== BEGIN printed: names, fields, word lists, decode rows ===== -/
def RX0 : String := "SlicedCipher"
def TX0 : u_T := fun k => match k with
  | 0 => ("SlicedCipher", "keyWords", "[I", true)
  | 1 => ("SlicedCipher", "keyBytes", "I", false)
  | 2 => ("SlicedCipher", "keyIsReady", "Z", false)
  | 3 => ("SlicedCipher", "schedule", "[I", true)
  | 4 => ("SlicedCipher", "startWords", "[I", true)
  | 5 => ("SlicedCipher", "tape", "[I", true)
  | 6 => ("SlicedCipher", "tapeLength", "I", false)
  | 7 => ("SlicedCipher", "counter", "[I", true)
  | _ => ("SlicedCipher", "scratch", "[I", true)
def tyX0 : Nat → FieldType := fun k => match k with
  | 0 => .array .int
  | 1 => .int
  | 2 => .boolean
  | 3 => .array .int
  | 4 => .array .int
  | 5 => .array .int
  | 6 => .int
  | 7 => .array .int
  | _ => .array .int
abbrev wsX00 : List Cond := u_ws RX0 TX0 9
theorem nmX0 : ∀ a, a < 9 → ∀ b, b < 9 → a ≠ b → (TX0 a).2.1 ≠ (TX0 b).2.1 := by decide +kernel
theorem tyX0_ok : ∀ k, k < 9 → parseFieldDescriptor (TX0 k).2.2.1 = some (tyX0 k) := by decide +kernel
abbrev cX0_init : ByteArray := prog_1_method_1_code
def yX0_init : MethodName := ⟨RX0, "<init>", "()V"⟩
abbrev cX0_key : ByteArray := prog_1_method_2_code
def yX0_key : MethodName := ⟨RX0, "key", "(II)V"⟩
abbrev cX0_size : ByteArray := prog_1_method_3_code
def yX0_size : MethodName := ⟨RX0, "size", "(I)V"⟩
abbrev cX0_ready : ByteArray := prog_1_method_4_code
def yX0_ready : MethodName := ⟨RX0, "ready", "()V"⟩
abbrev cX0_round : ByteArray := prog_1_method_5_code
def yX0_round : MethodName := ⟨RX0, "round", "(II)I"⟩
abbrev cX0_box : ByteArray := prog_1_method_6_code
def yX0_box : MethodName := ⟨RX0, "box", "(IIZ)I"⟩
abbrev cX0_start : ByteArray := prog_1_method_7_code
def yX0_start : MethodName := ⟨RX0, "start", "(II)V"⟩
abbrev cX0_put : ByteArray := prog_1_method_8_code
def yX0_put : MethodName := ⟨RX0, "put", "(IIII)I"⟩
abbrev cX0_cut : ByteArray := prog_1_method_9_code
def yX0_cut : MethodName := ⟨RX0, "cut", "(I)I"⟩
abbrev cX0_word : ByteArray := prog_1_method_10_code
def yX0_word : MethodName := ⟨RX0, "word", "(I)I"⟩
abbrev cX0_run : ByteArray := prog_1_method_11_code
def yX0_run : MethodName := ⟨RX0, "run", "(IZ)I"⟩
abbrev cX0_seal : ByteArray := prog_1_method_12_code
def yX0_seal : MethodName := ⟨RX0, "seal", "(I)I"⟩
abbrev cX0_needReadyKey : ByteArray := prog_1_method_13_code
def yX0_needReadyKey : MethodName := ⟨RX0, "needReadyKey", "()V"⟩
abbrev cX0_needWholeBlocks : ByteArray := prog_1_method_14_code
def yX0_needWholeBlocks : MethodName := ⟨RX0, "needWholeBlocks", "()V"⟩
abbrev cX0_paddedKeyWord : ByteArray := prog_1_method_15_code
def yX0_paddedKeyWord : MethodName := ⟨RX0, "paddedKeyWord", "(I)I"⟩
abbrev cX0_paddedKeyByte : ByteArray := prog_1_method_16_code
def yX0_paddedKeyByte : MethodName := ⟨RX0, "paddedKeyByte", "(I)I"⟩
abbrev cX0_spreadKey : ByteArray := prog_1_method_17_code
def yX0_spreadKey : MethodName := ⟨RX0, "spreadKey", "()V"⟩
abbrev cX0_roundKeyAt : ByteArray := prog_1_method_18_code
def yX0_roundKeyAt : MethodName := ⟨RX0, "roundKeyAt", "(I)I"⟩
abbrev cX0_sourceInBox : ByteArray := prog_1_method_19_code
def yX0_sourceInBox : MethodName := ⟨RX0, "sourceInBox", "(II)I"⟩
abbrev cX0_changeEachBlock : ByteArray := prog_1_method_20_code
def yX0_changeEachBlock : MethodName := ⟨RX0, "changeEachBlock", "(Z)V"⟩
abbrev cX0_chainTape : ByteArray := prog_1_method_21_code
def yX0_chainTape : MethodName := ⟨RX0, "chainTape", "()V"⟩
abbrev cX0_unchainTape : ByteArray := prog_1_method_22_code
def yX0_unchainTape : MethodName := ⟨RX0, "unchainTape", "()V"⟩
abbrev cX0_xorWithOneBefore : ByteArray := prog_1_method_23_code
def yX0_xorWithOneBefore : MethodName := ⟨RX0, "xorWithOneBefore", "(I)V"⟩
abbrev cX0_maskByCounter : ByteArray := prog_1_method_24_code
def yX0_maskByCounter : MethodName := ⟨RX0, "maskByCounter", "()V"⟩
abbrev cX0_countOneMore : ByteArray := prog_1_method_25_code
def yX0_countOneMore : MethodName := ⟨RX0, "countOneMore", "()V"⟩
abbrev cX0_encipher : ByteArray := prog_1_method_26_code
def yX0_encipher : MethodName := ⟨RX0, "encipher", "([II)V"⟩
abbrev cX0_decipher : ByteArray := prog_1_method_27_code
def yX0_decipher : MethodName := ⟨RX0, "decipher", "([II)V"⟩
abbrev cX0_xorBlock : ByteArray := prog_1_method_28_code
def yX0_xorBlock : MethodName := ⟨RX0, "xorBlock", "([II[II)V"⟩
abbrev cX0_passBox : ByteArray := prog_1_method_29_code
def yX0_passBox : MethodName := ⟨RX0, "passBox", "([IIIZ)V"⟩
abbrev cX0_placesWith : ByteArray := prog_1_method_30_code
def yX0_placesWith : MethodName := ⟨RX0, "placesWith", "(II)I"⟩
abbrev cX0_lowestBitEverywhere : ByteArray := prog_1_method_31_code
def yX0_lowestBitEverywhere : MethodName := ⟨RX0, "lowestBitEverywhere", "(I)I"⟩
abbrev cX0_mix : ByteArray := prog_1_method_32_code
def yX0_mix : MethodName := ⟨RX0, "mix", "([II)V"⟩
abbrev cX0_unmix : ByteArray := prog_1_method_33_code
def yX0_unmix : MethodName := ⟨RX0, "unmix", "([II)V"⟩
def RX1 : String := "SlicedCipherModel"
def TX1 : u_T := fun k => match k with
  | 0 => ("SlicedCipherModel", "thrown", "I", false)
  | 1 => ("SlicedCipherModel", "told", "[I", true)
  | 2 => ("SlicedCipherModel", "bytes", "I", false)
  | 3 => ("SlicedCipherModel", "ready", "Z", false)
  | 4 => ("SlicedCipherModel", "words", "[I", true)
  | 5 => ("SlicedCipherModel", "rounds", "[I", true)
  | 6 => ("SlicedCipherModel", "begin", "[I", true)
  | 7 => ("SlicedCipherModel", "tape", "[I", true)
  | 8 => ("SlicedCipherModel", "size", "I", false)
  | 9 => ("SlicedCipherModel", "rows", "[I", true)
  | 10 => ("SlicedCipherModel", "block", "[I", true)
  | 11 => ("SlicedCipherModel", "made", "[I", true)
  | _ => ("SlicedCipherModel", "last", "[I", true)
def tyX1 : Nat → FieldType := fun k => match k with
  | 0 => .int
  | 1 => .array .int
  | 2 => .int
  | 3 => .boolean
  | 4 => .array .int
  | 5 => .array .int
  | 6 => .array .int
  | 7 => .array .int
  | 8 => .int
  | 9 => .array .int
  | 10 => .array .int
  | 11 => .array .int
  | _ => .array .int
abbrev wsX10 : List Cond := u_ws RX1 TX1 13
theorem nmX1 : ∀ a, a < 13 → ∀ b, b < 13 → a ≠ b → (TX1 a).2.1 ≠ (TX1 b).2.1 := by decide +kernel
theorem tyX1_ok : ∀ k, k < 13 → parseFieldDescriptor (TX1 k).2.2.1 = some (tyX1 k) := by decide +kernel
abbrev cX1_init : ByteArray := prog_3_method_1_code
def yX1_init : MethodName := ⟨RX1, "<init>", "()V"⟩
abbrev cX1_thrown : ByteArray := prog_3_method_2_code
def yX1_thrown : MethodName := ⟨RX1, "thrown", "()I"⟩
abbrev cX1_good : ByteArray := prog_3_method_3_code
def yX1_good : MethodName := ⟨RX1, "good", "(ZZ)Z"⟩
abbrev cX1_isIn : ByteArray := prog_3_method_4_code
def yX1_isIn : MethodName := ⟨RX1, "isIn", "(III)Z"⟩
abbrev cX1_back : ByteArray := prog_3_method_5_code
def yX1_back : MethodName := ⟨RX1, "back", "(II)I"⟩
abbrev cX1_through : ByteArray := prog_3_method_6_code
def yX1_through : MethodName := ⟨RX1, "through", "(IZ)V"⟩
abbrev cX1_left : ByteArray := prog_3_method_7_code
def yX1_left : MethodName := ⟨RX1, "left", "(II)I"⟩
abbrev cX1_right : ByteArray := prog_3_method_8_code
def yX1_right : MethodName := ⟨RX1, "right", "(II)I"⟩
abbrev cX1_key : ByteArray := prog_3_method_9_code
def yX1_key : MethodName := ⟨RX1, "key", "(II)V"⟩
abbrev cX1_size : ByteArray := prog_3_method_10_code
def yX1_size : MethodName := ⟨RX1, "size", "(I)V"⟩
abbrev cX1_keyByte : ByteArray := prog_3_method_11_code
def yX1_keyByte : MethodName := ⟨RX1, "keyByte", "(I)I"⟩
abbrev cX1_ready : ByteArray := prog_3_method_12_code
def yX1_ready : MethodName := ⟨RX1, "ready", "()V"⟩
abbrev cX1_round : ByteArray := prog_3_method_13_code
def yX1_round : MethodName := ⟨RX1, "round", "(II)I"⟩
abbrev cX1_box : ByteArray := prog_3_method_14_code
def yX1_box : MethodName := ⟨RX1, "box", "(IIZ)I"⟩
abbrev cX1_start : ByteArray := prog_3_method_15_code
def yX1_start : MethodName := ⟨RX1, "start", "(II)V"⟩
abbrev cX1_put : ByteArray := prog_3_method_16_code
def yX1_put : MethodName := ⟨RX1, "put", "(IIII)I"⟩
abbrev cX1_cut : ByteArray := prog_3_method_17_code
def yX1_cut : MethodName := ⟨RX1, "cut", "(I)I"⟩
abbrev cX1_word : ByteArray := prog_3_method_18_code
def yX1_word : MethodName := ⟨RX1, "word", "(I)I"⟩
abbrev cX1_xor : ByteArray := prog_3_method_19_code
def yX1_xor : MethodName := ⟨RX1, "xor", "(I)V"⟩
abbrev cX1_mix : ByteArray := prog_3_method_20_code
def yX1_mix : MethodName := ⟨RX1, "mix", "()V"⟩
abbrev cX1_unmix : ByteArray := prog_3_method_21_code
def yX1_unmix : MethodName := ⟨RX1, "unmix", "()V"⟩
abbrev cX1_forth : ByteArray := prog_3_method_22_code
def yX1_forth : MethodName := ⟨RX1, "forth", "()V"⟩
abbrev cX1_undo : ByteArray := prog_3_method_23_code
def yX1_undo : MethodName := ⟨RX1, "undo", "()V"⟩
abbrev cX1_load : ByteArray := prog_3_method_24_code
def yX1_load : MethodName := ⟨RX1, "load", "(I)V"⟩
abbrev cX1_alone : ByteArray := prog_3_method_25_code
def yX1_alone : MethodName := ⟨RX1, "alone", "(IZ)V"⟩
abbrev cX1_chained : ByteArray := prog_3_method_26_code
def yX1_chained : MethodName := ⟨RX1, "chained", "(IZ)V"⟩
abbrev cX1_counted : ByteArray := prog_3_method_27_code
def yX1_counted : MethodName := ⟨RX1, "counted", "(I)V"⟩
abbrev cX1_run : ByteArray := prog_3_method_28_code
def yX1_run : MethodName := ⟨RX1, "run", "(IZ)I"⟩
abbrev cX1_seal : ByteArray := prog_3_method_29_code
def yX1_seal : MethodName := ⟨RX1, "seal", "(I)I"⟩
def RJ6 : String := "java/lang/Integer"
def TJ6 : u_T := fun k => match k with
  | _ => ("", "", "", false)
def tyJ6 : Nat → FieldType := fun k => match k with
  | _ => .int
abbrev wsJ60 : List Cond := u_ws RJ6 TJ6 0
theorem nmJ6 : ∀ a, a < 0 → ∀ b, b < 0 → a ≠ b → (TJ6 a).2.1 ≠ (TJ6 b).2.1 := by decide +kernel
theorem tyJ6_ok : ∀ k, k < 0 → parseFieldDescriptor (TJ6 k).2.2.1 = some (tyJ6 k) := by decide +kernel
abbrev cJ6_rotateLeft_7cf53 : ByteArray := prog_8_method_50_code
def yJ6_rotateLeft_7cf53 : MethodName := ⟨RJ6, "rotateLeft", "(II)I"⟩
abbrev cJ6_rotateRight_7cf53 : ByteArray := prog_8_method_51_code
def yJ6_rotateRight_7cf53 : MethodName := ⟨RJ6, "rotateRight", "(II)I"⟩
def RJ9 : String := "java/lang/Math"
def TJ9 : u_T := fun k => match k with
  | _ => ("", "", "", false)
def tyJ9 : Nat → FieldType := fun k => match k with
  | _ => .int
abbrev wsJ90 : List Cond := u_ws RJ9 TJ9 0
theorem nmJ9 : ∀ a, a < 0 → ∀ b, b < 0 → a ≠ b → (TJ9 a).2.1 ≠ (TJ9 b).2.1 := by decide +kernel
theorem tyJ9_ok : ∀ k, k < 0 → parseFieldDescriptor (TJ9 k).2.2.1 = some (tyJ9 k) := by decide +kernel
abbrev cJ9_floorMod_7cf53 : ByteArray := prog_9_method_50_code
def yJ9_floorMod_7cf53 : MethodName := ⟨RJ9, "floorMod", "(II)I"⟩
def RJ0 : String := "java/lang/String"
def TJ0 : u_T := fun k => match k with
  | _ => ("", "", "", false)
def tyJ0 : Nat → FieldType := fun k => match k with
  | _ => .int
abbrev wsJ00 : List Cond := u_ws RJ0 TJ0 0
theorem nmJ0 : ∀ a, a < 0 → ∀ b, b < 0 → a ≠ b → (TJ0 a).2.1 ≠ (TJ0 b).2.1 := by decide +kernel
theorem tyJ0_ok : ∀ k, k < 0 → parseFieldDescriptor (TJ0 k).2.2.1 = some (tyJ0 k) := by decide +kernel
def RJ10 : String := "java/lang/System"
def TJ10 : u_T := fun k => match k with
  | _ => ("", "", "", false)
def tyJ10 : Nat → FieldType := fun k => match k with
  | _ => .int
abbrev wsJ100 : List Cond := u_ws RJ10 TJ10 0
theorem nmJ10 : ∀ a, a < 0 → ∀ b, b < 0 → a ≠ b → (TJ10 a).2.1 ≠ (TJ10 b).2.1 := by decide +kernel
theorem tyJ10_ok : ∀ k, k < 0 → parseFieldDescriptor (TJ10 k).2.2.1 = some (tyJ10 k) := by decide +kernel
def RL : String := "SlicedCipherLaw"
abbrev cL_key : ByteArray := method_3_code
def yL_key : MethodName := ⟨RL, "key", "(LSlicedCipher;II)I"⟩
abbrev cL_size : ByteArray := method_4_code
def yL_size : MethodName := ⟨RL, "size", "(LSlicedCipher;I)I"⟩
abbrev cL_round : ByteArray := method_5_code
def yL_round : MethodName := ⟨RL, "round", "(LSlicedCipher;II[J)I"⟩
abbrev cL_box : ByteArray := method_6_code
def yL_box : MethodName := ⟨RL, "box", "(LSlicedCipher;IIZ[J)I"⟩
abbrev cL_start : ByteArray := method_7_code
def yL_start : MethodName := ⟨RL, "start", "(LSlicedCipher;II)I"⟩
abbrev cL_put : ByteArray := method_8_code
def yL_put : MethodName := ⟨RL, "put", "(LSlicedCipher;IIII[J)I"⟩
abbrev cL_cut : ByteArray := method_9_code
def yL_cut : MethodName := ⟨RL, "cut", "(LSlicedCipher;I[J)I"⟩
abbrev cL_word : ByteArray := method_10_code
def yL_word : MethodName := ⟨RL, "word", "(LSlicedCipher;I[J)I"⟩
abbrev cL_run : ByteArray := method_11_code
def yL_run : MethodName := ⟨RL, "run", "(LSlicedCipher;IZ[J)I"⟩
abbrev cL_seal : ByteArray := method_12_code
def yL_seal : MethodName := ⟨RL, "seal", "(LSlicedCipher;I[J)I"⟩
abbrev cL_law : ByteArray := code
def yL_law : MethodName := ⟨RL, "law", "([I)Z"⟩
def wsX0_init : List Cond := .code yX0_init cX0_init 1 none :: ([.methodLink RX0 3 objectInit, .instanceMethod objectInit, .code objectInit ⟨#[0xb1]⟩ 1 none, .arrayClass .int, .fieldLink RX0 9 "SlicedCipher" "keyWords" "[I", .fieldLink RX0 13 "SlicedCipher" "schedule" "[I", .fieldLink RX0 16 "SlicedCipher" "startWords" "[I", .fieldLink RX0 19 "SlicedCipher" "tape" "[I", .fieldLink RX0 22 "SlicedCipher" "counter" "[I", .fieldLink RX0 25 "SlicedCipher" "scratch" "[I", .fieldLink RX0 28 "SlicedCipher" "keyBytes" "I", .fieldLink RX0 32 "SlicedCipher" "keyIsReady" "Z", .fieldLink RX0 36 "SlicedCipher" "tapeLength" "I"] ++ wsX00)
def wsX0_key : List Cond := .code yX0_key cX0_key 3 none :: ([.classLink RX0 39 "java/lang/IndexOutOfBoundsException", .initialized "java/lang/IndexOutOfBoundsException", .fieldLink RX0 9 "SlicedCipher" "keyWords" "[I", .fieldLink RX0 32 "SlicedCipher" "keyIsReady" "Z"] ++ wsX00 ++ (vx_atS RX0 43 "java/lang/IndexOutOfBoundsException" ["java/lang/RuntimeException", "java/lang/Exception"]).filter goodWord)
def wsX0_size : List Cond := .code yX0_size cX0_size 2 none :: ([.classLink RX0 46 "java/lang/IllegalArgumentException", .initialized "java/lang/IllegalArgumentException", .fieldLink RX0 28 "SlicedCipher" "keyBytes" "I", .fieldLink RX0 32 "SlicedCipher" "keyIsReady" "Z"] ++ wsX00 ++ (vx_atS RX0 50 "java/lang/IllegalArgumentException" ["java/lang/RuntimeException", "java/lang/Exception"]).filter goodWord)
def wsX0_paddedKeyByte : List Cond := .code yX0_paddedKeyByte cX0_paddedKeyByte 2 (some .int) :: ([.fieldLink RX0 28 "SlicedCipher" "keyBytes" "I", .fieldLink RX0 9 "SlicedCipher" "keyWords" "[I"] ++ wsX00)
def wsX0_paddedKeyWord : List Cond := .code yX0_paddedKeyWord cX0_paddedKeyWord 4 (some .int) :: ([.methodLink RX0 129 yX0_paddedKeyByte, .instanceMethod yX0_paddedKeyByte, .selects RX0 yX0_paddedKeyByte yX0_paddedKeyByte, .initialized RX0, .code yX0_paddedKeyByte cX0_paddedKeyByte 2 (some .int), .fieldLink RX0 28 "SlicedCipher" "keyBytes" "I", .fieldLink RX0 9 "SlicedCipher" "keyWords" "[I"] ++ wsX00)
def wsJ6_rotateLeft_7cf53 : List Cond := .code yJ6_rotateLeft_7cf53 cJ6_rotateLeft_7cf53 2 (some .int) :: ([])
def wsX0_spreadKey : List Cond := .code yX0_spreadKey cX0_spreadKey 4 none :: ([.fieldLink RX0 13 "SlicedCipher" "schedule" "[I", .constant RX0 132 (-1640531527), .methodLink RX0 133 yJ6_rotateLeft_7cf53, .static yJ6_rotateLeft_7cf53, .initialized RJ6, .code yJ6_rotateLeft_7cf53 cJ6_rotateLeft_7cf53 2 (some .int)] ++ wsX00)
def wsX0_roundKeyAt : List Cond := .code yX0_roundKeyAt cX0_roundKeyAt 1 (some .int) :: ([])
def wsJ9_floorMod_7cf53 : List Cond := .code yJ9_floorMod_7cf53 cJ9_floorMod_7cf53 3 (some .int) :: ([])
def wsX0_lowestBitEverywhere : List Cond := .code yX0_lowestBitEverywhere cX0_lowestBitEverywhere 1 (some .int) :: ([])
def wsX0_placesWith : List Cond := .code yX0_placesWith cX0_placesWith 2 (some .int) :: ([.methodLink RX0 163 yX0_lowestBitEverywhere, .static yX0_lowestBitEverywhere, .initialized RX0, .code yX0_lowestBitEverywhere cX0_lowestBitEverywhere 1 (some .int)])
def wsX0_passBox : List Cond := .code yX0_passBox cX0_passBox 17 none :: ([.fieldLink RX0 83 "SlicedCipher" "BOXES" "[I", .methodLink RX0 160 yX0_placesWith, .static yX0_placesWith, .initialized RX0, .code yX0_placesWith cX0_placesWith 2 (some .int), .methodLink RX0 163 yX0_lowestBitEverywhere, .static yX0_lowestBitEverywhere, .code yX0_lowestBitEverywhere cX0_lowestBitEverywhere 1 (some .int)])
def wsX0_ready_r1 : List Cond := [Cond.fieldLink RX0 13 "SlicedCipher" "schedule" "[I", Cond.fieldLink RX0 32 "SlicedCipher" "keyIsReady" "Z", Cond.methodLink RX0 51 yX0_paddedKeyWord, Cond.instanceMethod yX0_paddedKeyWord, Cond.selects RX0 yX0_paddedKeyWord yX0_paddedKeyWord, Cond.initialized RX0, Cond.code yX0_paddedKeyWord cX0_paddedKeyWord 4 (some .int), Cond.methodLink RX0 129 yX0_paddedKeyByte, Cond.instanceMethod yX0_paddedKeyByte, Cond.selects RX0 yX0_paddedKeyByte yX0_paddedKeyByte, Cond.code yX0_paddedKeyByte cX0_paddedKeyByte 2 (some .int), Cond.fieldLink RX0 28 "SlicedCipher" "keyBytes" "I", Cond.fieldLink RX0 9 "SlicedCipher" "keyWords" "[I", Cond.methodLink RX0 55 yX0_spreadKey, Cond.instanceMethod yX0_spreadKey, Cond.selects RX0 yX0_spreadKey yX0_spreadKey, Cond.code yX0_spreadKey cX0_spreadKey 4 none, Cond.constant RX0 132 (-1640531527), Cond.methodLink RX0 133 yJ6_rotateLeft_7cf53, Cond.static yJ6_rotateLeft_7cf53, Cond.initialized RJ6, Cond.code yJ6_rotateLeft_7cf53 cJ6_rotateLeft_7cf53 2 (some .int), Cond.methodLink RX0 58 yX0_roundKeyAt, Cond.static yX0_roundKeyAt]
def wsX0_ready_r2 : List Cond := [Cond.code yX0_roundKeyAt cX0_roundKeyAt 1 (some .int), Cond.methodLink RX0 61 yJ9_floorMod_7cf53, Cond.static yJ9_floorMod_7cf53, Cond.initialized RJ9, Cond.code yJ9_floorMod_7cf53 cJ9_floorMod_7cf53 3 (some .int), Cond.methodLink RX0 67 yX0_passBox, Cond.static yX0_passBox, Cond.code yX0_passBox cX0_passBox 17 none, Cond.fieldLink RX0 83 "SlicedCipher" "BOXES" "[I", Cond.methodLink RX0 160 yX0_placesWith, Cond.static yX0_placesWith, Cond.code yX0_placesWith cX0_placesWith 2 (some .int), Cond.methodLink RX0 163 yX0_lowestBitEverywhere, Cond.static yX0_lowestBitEverywhere, Cond.code yX0_lowestBitEverywhere cX0_lowestBitEverywhere 1 (some .int)]
def wsX0_ready : List Cond := .code yX0_ready cX0_ready 2 none :: ((wsX0_ready_r1 ++ wsX0_ready_r2) ++ wsX00)
def wsX0_needReadyKey : List Cond := .code yX0_needReadyKey cX0_needReadyKey 1 none :: ([.classLink RX0 88 "java/lang/IllegalStateException", .initialized "java/lang/IllegalStateException", .fieldLink RX0 32 "SlicedCipher" "keyIsReady" "Z"] ++ wsX00 ++ (vx_atS RX0 92 "java/lang/IllegalStateException" ["java/lang/RuntimeException", "java/lang/Exception"]).filter goodWord)
def wsX0_round : List Cond := .code yX0_round cX0_round 3 (some .int) :: ([.classLink RX0 39 "java/lang/IndexOutOfBoundsException", .initialized "java/lang/IndexOutOfBoundsException", .fieldLink RX0 13 "SlicedCipher" "schedule" "[I", .methodLink RX0 73 yX0_needReadyKey, .instanceMethod yX0_needReadyKey, .selects RX0 yX0_needReadyKey yX0_needReadyKey, .initialized RX0, .code yX0_needReadyKey cX0_needReadyKey 1 none, .classLink RX0 88 "java/lang/IllegalStateException", .initialized "java/lang/IllegalStateException", .fieldLink RX0 32 "SlicedCipher" "keyIsReady" "Z", .methodLink RX0 58 yX0_roundKeyAt, .static yX0_roundKeyAt, .code yX0_roundKeyAt cX0_roundKeyAt 1 (some .int)] ++ wsX00 ++ (vx_atS RX0 43 "java/lang/IndexOutOfBoundsException" ["java/lang/RuntimeException", "java/lang/Exception"]).filter goodWord ++ (vx_atS RX0 92 "java/lang/IllegalStateException" ["java/lang/RuntimeException", "java/lang/Exception"]).filter goodWord)
def wsX0_sourceInBox : List Cond := .code yX0_sourceInBox cX0_sourceInBox 4 (some .int) :: ([.fieldLink RX0 83 "SlicedCipher" "BOXES" "[I"])
def wsX0_box : List Cond := .code yX0_box cX0_box 4 (some .int) :: ([.classLink RX0 39 "java/lang/IndexOutOfBoundsException", .initialized "java/lang/IndexOutOfBoundsException", .classLink RX0 46 "java/lang/IllegalArgumentException", .initialized "java/lang/IllegalArgumentException", .fieldLink RX0 83 "SlicedCipher" "BOXES" "[I", .methodLink RX0 80 yX0_sourceInBox, .static yX0_sourceInBox, .initialized RX0, .code yX0_sourceInBox cX0_sourceInBox 4 (some .int)] ++ (vx_atS RX0 43 "java/lang/IndexOutOfBoundsException" ["java/lang/RuntimeException", "java/lang/Exception"]).filter goodWord ++ (vx_atS RX0 50 "java/lang/IllegalArgumentException" ["java/lang/RuntimeException", "java/lang/Exception"]).filter goodWord)
def wsX0_start : List Cond := .code yX0_start cX0_start 3 none :: ([.classLink RX0 39 "java/lang/IndexOutOfBoundsException", .initialized "java/lang/IndexOutOfBoundsException", .fieldLink RX0 16 "SlicedCipher" "startWords" "[I"] ++ wsX00 ++ (vx_atS RX0 43 "java/lang/IndexOutOfBoundsException" ["java/lang/RuntimeException", "java/lang/Exception"]).filter goodWord)
def wsX0_put : List Cond := .code yX0_put cX0_put 5 (some .int) :: ([.classLink RX0 88 "java/lang/IllegalStateException", .initialized "java/lang/IllegalStateException", .fieldLink RX0 36 "SlicedCipher" "tapeLength" "I", .fieldLink RX0 19 "SlicedCipher" "tape" "[I"] ++ wsX00 ++ (vx_atS RX0 92 "java/lang/IllegalStateException" ["java/lang/RuntimeException", "java/lang/Exception"]).filter goodWord)
def wsX0_cut : List Cond := .code yX0_cut cX0_cut 2 (some .int) :: ([.classLink RX0 46 "java/lang/IllegalArgumentException", .initialized "java/lang/IllegalArgumentException", .fieldLink RX0 36 "SlicedCipher" "tapeLength" "I"] ++ wsX00 ++ (vx_atS RX0 50 "java/lang/IllegalArgumentException" ["java/lang/RuntimeException", "java/lang/Exception"]).filter goodWord)
def wsX0_word : List Cond := .code yX0_word cX0_word 2 (some .int) :: ([.classLink RX0 39 "java/lang/IndexOutOfBoundsException", .initialized "java/lang/IndexOutOfBoundsException", .fieldLink RX0 36 "SlicedCipher" "tapeLength" "I", .fieldLink RX0 19 "SlicedCipher" "tape" "[I"] ++ wsX00 ++ (vx_atS RX0 43 "java/lang/IndexOutOfBoundsException" ["java/lang/RuntimeException", "java/lang/Exception"]).filter goodWord)
def wsX0_needWholeBlocks : List Cond := .code yX0_needWholeBlocks cX0_needWholeBlocks 1 none :: ([.classLink RX0 88 "java/lang/IllegalStateException", .initialized "java/lang/IllegalStateException", .fieldLink RX0 36 "SlicedCipher" "tapeLength" "I"] ++ wsX00 ++ (vx_atS RX0 92 "java/lang/IllegalStateException" ["java/lang/RuntimeException", "java/lang/Exception"]).filter goodWord)
def wsX0_xorBlock : List Cond := .code yX0_xorBlock cX0_xorBlock 5 none :: ([])
def wsX0_mix : List Cond := .code yX0_mix cX0_mix 6 none :: ([.methodLink RX0 133 yJ6_rotateLeft_7cf53, .static yJ6_rotateLeft_7cf53, .initialized RJ6, .code yJ6_rotateLeft_7cf53 cJ6_rotateLeft_7cf53 2 (some .int)])
def wsX0_encipher_r1 : List Cond := [Cond.fieldLink RX0 13 "SlicedCipher" "schedule" "[I", Cond.methodLink RX0 58 yX0_roundKeyAt, Cond.static yX0_roundKeyAt, Cond.initialized RX0, Cond.code yX0_roundKeyAt cX0_roundKeyAt 1 (some .int), Cond.methodLink RX0 117 yX0_xorBlock, Cond.static yX0_xorBlock, Cond.code yX0_xorBlock cX0_xorBlock 5 none, Cond.methodLink RX0 67 yX0_passBox, Cond.static yX0_passBox, Cond.code yX0_passBox cX0_passBox 17 none, Cond.fieldLink RX0 83 "SlicedCipher" "BOXES" "[I", Cond.methodLink RX0 160 yX0_placesWith, Cond.static yX0_placesWith, Cond.code yX0_placesWith cX0_placesWith 2 (some .int), Cond.methodLink RX0 163 yX0_lowestBitEverywhere, Cond.static yX0_lowestBitEverywhere, Cond.code yX0_lowestBitEverywhere cX0_lowestBitEverywhere 1 (some .int), Cond.methodLink RX0 154 yX0_mix, Cond.static yX0_mix, Cond.code yX0_mix cX0_mix 6 none, Cond.methodLink RX0 133 yJ6_rotateLeft_7cf53, Cond.static yJ6_rotateLeft_7cf53, Cond.initialized RJ6]
def wsX0_encipher_r2 : List Cond := [Cond.code yJ6_rotateLeft_7cf53 cJ6_rotateLeft_7cf53 2 (some .int)]
def wsX0_encipher : List Cond := .code yX0_encipher cX0_encipher 4 none :: ((wsX0_encipher_r1 ++ wsX0_encipher_r2) ++ wsX00)
def wsX0_countOneMore : List Cond := .code yX0_countOneMore cX0_countOneMore 2 none :: ([.fieldLink RX0 22 "SlicedCipher" "counter" "[I"] ++ wsX00)
def wsX0_maskByCounter_r1 : List Cond := [Cond.fieldLink RX0 16 "SlicedCipher" "startWords" "[I", Cond.fieldLink RX0 22 "SlicedCipher" "counter" "[I", Cond.methodLink RX0 145 arraycopyName, Cond.native arraycopyName, Cond.static arraycopyName, Cond.initialized "java/lang/System", Cond.fieldLink RX0 36 "SlicedCipher" "tapeLength" "I", Cond.fieldLink RX0 25 "SlicedCipher" "scratch" "[I", Cond.fieldLink RX0 19 "SlicedCipher" "tape" "[I", Cond.methodLink RX0 121 yX0_encipher, Cond.instanceMethod yX0_encipher, Cond.selects RX0 yX0_encipher yX0_encipher, Cond.initialized RX0, Cond.code yX0_encipher cX0_encipher 4 none, Cond.fieldLink RX0 13 "SlicedCipher" "schedule" "[I", Cond.methodLink RX0 58 yX0_roundKeyAt, Cond.static yX0_roundKeyAt, Cond.code yX0_roundKeyAt cX0_roundKeyAt 1 (some .int), Cond.methodLink RX0 117 yX0_xorBlock, Cond.static yX0_xorBlock, Cond.code yX0_xorBlock cX0_xorBlock 5 none, Cond.methodLink RX0 67 yX0_passBox, Cond.static yX0_passBox, Cond.code yX0_passBox cX0_passBox 17 none]
def wsX0_maskByCounter_r2 : List Cond := [Cond.fieldLink RX0 83 "SlicedCipher" "BOXES" "[I", Cond.methodLink RX0 160 yX0_placesWith, Cond.static yX0_placesWith, Cond.code yX0_placesWith cX0_placesWith 2 (some .int), Cond.methodLink RX0 163 yX0_lowestBitEverywhere, Cond.static yX0_lowestBitEverywhere, Cond.code yX0_lowestBitEverywhere cX0_lowestBitEverywhere 1 (some .int), Cond.methodLink RX0 154 yX0_mix, Cond.static yX0_mix, Cond.code yX0_mix cX0_mix 6 none, Cond.methodLink RX0 133 yJ6_rotateLeft_7cf53, Cond.static yJ6_rotateLeft_7cf53, Cond.initialized RJ6, Cond.code yJ6_rotateLeft_7cf53 cJ6_rotateLeft_7cf53 2 (some .int), Cond.methodLink RX0 151 yX0_countOneMore, Cond.instanceMethod yX0_countOneMore, Cond.selects RX0 yX0_countOneMore yX0_countOneMore, Cond.code yX0_countOneMore cX0_countOneMore 2 none]
def wsX0_maskByCounter : List Cond := .code yX0_maskByCounter cX0_maskByCounter 2 none :: ((wsX0_maskByCounter_r1 ++ wsX0_maskByCounter_r2) ++ wsX00)
def wsJ6_rotateRight_7cf53 : List Cond := .code yJ6_rotateRight_7cf53 cJ6_rotateRight_7cf53 2 (some .int) :: ([])
def wsX0_unmix : List Cond := .code yX0_unmix cX0_unmix 6 none :: ([.methodLink RX0 166 yJ6_rotateRight_7cf53, .static yJ6_rotateRight_7cf53, .initialized RJ6, .code yJ6_rotateRight_7cf53 cJ6_rotateRight_7cf53 2 (some .int)])
def wsX0_decipher_r1 : List Cond := [Cond.fieldLink RX0 13 "SlicedCipher" "schedule" "[I", Cond.methodLink RX0 58 yX0_roundKeyAt, Cond.static yX0_roundKeyAt, Cond.initialized RX0, Cond.code yX0_roundKeyAt cX0_roundKeyAt 1 (some .int), Cond.methodLink RX0 117 yX0_xorBlock, Cond.static yX0_xorBlock, Cond.code yX0_xorBlock cX0_xorBlock 5 none, Cond.methodLink RX0 157 yX0_unmix, Cond.static yX0_unmix, Cond.code yX0_unmix cX0_unmix 6 none, Cond.methodLink RX0 166 yJ6_rotateRight_7cf53, Cond.static yJ6_rotateRight_7cf53, Cond.initialized RJ6, Cond.code yJ6_rotateRight_7cf53 cJ6_rotateRight_7cf53 2 (some .int), Cond.methodLink RX0 67 yX0_passBox, Cond.static yX0_passBox, Cond.code yX0_passBox cX0_passBox 17 none, Cond.fieldLink RX0 83 "SlicedCipher" "BOXES" "[I", Cond.methodLink RX0 160 yX0_placesWith, Cond.static yX0_placesWith, Cond.code yX0_placesWith cX0_placesWith 2 (some .int), Cond.methodLink RX0 163 yX0_lowestBitEverywhere, Cond.static yX0_lowestBitEverywhere]
def wsX0_decipher_r2 : List Cond := [Cond.code yX0_lowestBitEverywhere cX0_lowestBitEverywhere 1 (some .int)]
def wsX0_decipher : List Cond := .code yX0_decipher cX0_decipher 4 none :: ((wsX0_decipher_r1 ++ wsX0_decipher_r2) ++ wsX00)
def wsX0_xorWithOneBefore : List Cond := .code yX0_xorWithOneBefore cX0_xorWithOneBefore 2 none :: ([.fieldLink RX0 19 "SlicedCipher" "tape" "[I", .fieldLink RX0 16 "SlicedCipher" "startWords" "[I", .methodLink RX0 117 yX0_xorBlock, .static yX0_xorBlock, .initialized RX0, .code yX0_xorBlock cX0_xorBlock 5 none] ++ wsX00)
def wsX0_unchainTape_r1 : List Cond := [Cond.fieldLink RX0 36 "SlicedCipher" "tapeLength" "I", Cond.fieldLink RX0 19 "SlicedCipher" "tape" "[I", Cond.methodLink RX0 138 yX0_decipher, Cond.instanceMethod yX0_decipher, Cond.selects RX0 yX0_decipher yX0_decipher, Cond.initialized RX0, Cond.code yX0_decipher cX0_decipher 4 none, Cond.fieldLink RX0 13 "SlicedCipher" "schedule" "[I", Cond.methodLink RX0 58 yX0_roundKeyAt, Cond.static yX0_roundKeyAt, Cond.code yX0_roundKeyAt cX0_roundKeyAt 1 (some .int), Cond.methodLink RX0 117 yX0_xorBlock, Cond.static yX0_xorBlock, Cond.code yX0_xorBlock cX0_xorBlock 5 none, Cond.methodLink RX0 157 yX0_unmix, Cond.static yX0_unmix, Cond.code yX0_unmix cX0_unmix 6 none, Cond.methodLink RX0 166 yJ6_rotateRight_7cf53, Cond.static yJ6_rotateRight_7cf53, Cond.initialized RJ6, Cond.code yJ6_rotateRight_7cf53 cJ6_rotateRight_7cf53 2 (some .int), Cond.methodLink RX0 67 yX0_passBox, Cond.static yX0_passBox, Cond.code yX0_passBox cX0_passBox 17 none]
def wsX0_unchainTape_r2 : List Cond := [Cond.fieldLink RX0 83 "SlicedCipher" "BOXES" "[I", Cond.methodLink RX0 160 yX0_placesWith, Cond.static yX0_placesWith, Cond.code yX0_placesWith cX0_placesWith 2 (some .int), Cond.methodLink RX0 163 yX0_lowestBitEverywhere, Cond.static yX0_lowestBitEverywhere, Cond.code yX0_lowestBitEverywhere cX0_lowestBitEverywhere 1 (some .int), Cond.methodLink RX0 141 yX0_xorWithOneBefore, Cond.instanceMethod yX0_xorWithOneBefore, Cond.selects RX0 yX0_xorWithOneBefore yX0_xorWithOneBefore, Cond.code yX0_xorWithOneBefore cX0_xorWithOneBefore 2 none, Cond.fieldLink RX0 16 "SlicedCipher" "startWords" "[I"]
def wsX0_unchainTape : List Cond := .code yX0_unchainTape cX0_unchainTape 2 none :: ((wsX0_unchainTape_r1 ++ wsX0_unchainTape_r2) ++ wsX00)
def wsX0_chainTape_r1 : List Cond := [Cond.fieldLink RX0 36 "SlicedCipher" "tapeLength" "I", Cond.fieldLink RX0 19 "SlicedCipher" "tape" "[I", Cond.methodLink RX0 141 yX0_xorWithOneBefore, Cond.instanceMethod yX0_xorWithOneBefore, Cond.selects RX0 yX0_xorWithOneBefore yX0_xorWithOneBefore, Cond.initialized RX0, Cond.code yX0_xorWithOneBefore cX0_xorWithOneBefore 2 none, Cond.fieldLink RX0 16 "SlicedCipher" "startWords" "[I", Cond.methodLink RX0 117 yX0_xorBlock, Cond.static yX0_xorBlock, Cond.code yX0_xorBlock cX0_xorBlock 5 none, Cond.methodLink RX0 121 yX0_encipher, Cond.instanceMethod yX0_encipher, Cond.selects RX0 yX0_encipher yX0_encipher, Cond.code yX0_encipher cX0_encipher 4 none, Cond.fieldLink RX0 13 "SlicedCipher" "schedule" "[I", Cond.methodLink RX0 58 yX0_roundKeyAt, Cond.static yX0_roundKeyAt, Cond.code yX0_roundKeyAt cX0_roundKeyAt 1 (some .int), Cond.methodLink RX0 67 yX0_passBox, Cond.static yX0_passBox, Cond.code yX0_passBox cX0_passBox 17 none, Cond.fieldLink RX0 83 "SlicedCipher" "BOXES" "[I", Cond.methodLink RX0 160 yX0_placesWith]
def wsX0_chainTape_r2 : List Cond := [Cond.static yX0_placesWith, Cond.code yX0_placesWith cX0_placesWith 2 (some .int), Cond.methodLink RX0 163 yX0_lowestBitEverywhere, Cond.static yX0_lowestBitEverywhere, Cond.code yX0_lowestBitEverywhere cX0_lowestBitEverywhere 1 (some .int), Cond.methodLink RX0 154 yX0_mix, Cond.static yX0_mix, Cond.code yX0_mix cX0_mix 6 none, Cond.methodLink RX0 133 yJ6_rotateLeft_7cf53, Cond.static yJ6_rotateLeft_7cf53, Cond.initialized RJ6, Cond.code yJ6_rotateLeft_7cf53 cJ6_rotateLeft_7cf53 2 (some .int)]
def wsX0_chainTape : List Cond := .code yX0_chainTape cX0_chainTape 2 none :: ((wsX0_chainTape_r1 ++ wsX0_chainTape_r2) ++ wsX00)
def wsX0_changeEachBlock_r1 : List Cond := [Cond.fieldLink RX0 36 "SlicedCipher" "tapeLength" "I", Cond.fieldLink RX0 19 "SlicedCipher" "tape" "[I", Cond.methodLink RX0 138 yX0_decipher, Cond.instanceMethod yX0_decipher, Cond.selects RX0 yX0_decipher yX0_decipher, Cond.initialized RX0, Cond.code yX0_decipher cX0_decipher 4 none, Cond.fieldLink RX0 13 "SlicedCipher" "schedule" "[I", Cond.methodLink RX0 58 yX0_roundKeyAt, Cond.static yX0_roundKeyAt, Cond.code yX0_roundKeyAt cX0_roundKeyAt 1 (some .int), Cond.methodLink RX0 117 yX0_xorBlock, Cond.static yX0_xorBlock, Cond.code yX0_xorBlock cX0_xorBlock 5 none, Cond.methodLink RX0 157 yX0_unmix, Cond.static yX0_unmix, Cond.code yX0_unmix cX0_unmix 6 none, Cond.methodLink RX0 166 yJ6_rotateRight_7cf53, Cond.static yJ6_rotateRight_7cf53, Cond.initialized RJ6, Cond.code yJ6_rotateRight_7cf53 cJ6_rotateRight_7cf53 2 (some .int), Cond.methodLink RX0 67 yX0_passBox, Cond.static yX0_passBox, Cond.code yX0_passBox cX0_passBox 17 none]
def wsX0_changeEachBlock_r2 : List Cond := [Cond.fieldLink RX0 83 "SlicedCipher" "BOXES" "[I", Cond.methodLink RX0 160 yX0_placesWith, Cond.static yX0_placesWith, Cond.code yX0_placesWith cX0_placesWith 2 (some .int), Cond.methodLink RX0 163 yX0_lowestBitEverywhere, Cond.static yX0_lowestBitEverywhere, Cond.code yX0_lowestBitEverywhere cX0_lowestBitEverywhere 1 (some .int), Cond.methodLink RX0 121 yX0_encipher, Cond.instanceMethod yX0_encipher, Cond.selects RX0 yX0_encipher yX0_encipher, Cond.code yX0_encipher cX0_encipher 4 none, Cond.methodLink RX0 154 yX0_mix, Cond.static yX0_mix, Cond.code yX0_mix cX0_mix 6 none, Cond.methodLink RX0 133 yJ6_rotateLeft_7cf53, Cond.static yJ6_rotateLeft_7cf53, Cond.code yJ6_rotateLeft_7cf53 cJ6_rotateLeft_7cf53 2 (some .int)]
def wsX0_changeEachBlock : List Cond := .code yX0_changeEachBlock cX0_changeEachBlock 3 none :: ((wsX0_changeEachBlock_r1 ++ wsX0_changeEachBlock_r2) ++ wsX00)
def wsX0_run_r1 : List Cond := [Cond.classLink RX0 46 "java/lang/IllegalArgumentException", Cond.initialized "java/lang/IllegalArgumentException", Cond.fieldLink RX0 36 "SlicedCipher" "tapeLength" "I", Cond.methodLink RX0 73 yX0_needReadyKey, Cond.instanceMethod yX0_needReadyKey, Cond.selects RX0 yX0_needReadyKey yX0_needReadyKey, Cond.initialized RX0, Cond.code yX0_needReadyKey cX0_needReadyKey 1 none, Cond.classLink RX0 88 "java/lang/IllegalStateException", Cond.initialized "java/lang/IllegalStateException", Cond.fieldLink RX0 32 "SlicedCipher" "keyIsReady" "Z", Cond.methodLink RX0 99 yX0_needWholeBlocks, Cond.instanceMethod yX0_needWholeBlocks, Cond.selects RX0 yX0_needWholeBlocks yX0_needWholeBlocks, Cond.code yX0_needWholeBlocks cX0_needWholeBlocks 1 none, Cond.methodLink RX0 102 yX0_maskByCounter, Cond.instanceMethod yX0_maskByCounter, Cond.selects RX0 yX0_maskByCounter yX0_maskByCounter, Cond.code yX0_maskByCounter cX0_maskByCounter 2 none, Cond.fieldLink RX0 16 "SlicedCipher" "startWords" "[I", Cond.fieldLink RX0 22 "SlicedCipher" "counter" "[I", Cond.methodLink RX0 145 arraycopyName, Cond.native arraycopyName, Cond.static arraycopyName]
def wsX0_run_r2 : List Cond := [Cond.initialized "java/lang/System", Cond.fieldLink RX0 25 "SlicedCipher" "scratch" "[I", Cond.fieldLink RX0 19 "SlicedCipher" "tape" "[I", Cond.methodLink RX0 121 yX0_encipher, Cond.instanceMethod yX0_encipher, Cond.selects RX0 yX0_encipher yX0_encipher, Cond.code yX0_encipher cX0_encipher 4 none, Cond.fieldLink RX0 13 "SlicedCipher" "schedule" "[I", Cond.methodLink RX0 58 yX0_roundKeyAt, Cond.static yX0_roundKeyAt, Cond.code yX0_roundKeyAt cX0_roundKeyAt 1 (some .int), Cond.methodLink RX0 117 yX0_xorBlock, Cond.static yX0_xorBlock, Cond.code yX0_xorBlock cX0_xorBlock 5 none, Cond.methodLink RX0 67 yX0_passBox, Cond.static yX0_passBox, Cond.code yX0_passBox cX0_passBox 17 none, Cond.fieldLink RX0 83 "SlicedCipher" "BOXES" "[I", Cond.methodLink RX0 160 yX0_placesWith, Cond.static yX0_placesWith, Cond.code yX0_placesWith cX0_placesWith 2 (some .int), Cond.methodLink RX0 163 yX0_lowestBitEverywhere, Cond.static yX0_lowestBitEverywhere, Cond.code yX0_lowestBitEverywhere cX0_lowestBitEverywhere 1 (some .int)]
def wsX0_run_r3 : List Cond := [Cond.methodLink RX0 154 yX0_mix, Cond.static yX0_mix, Cond.code yX0_mix cX0_mix 6 none, Cond.methodLink RX0 133 yJ6_rotateLeft_7cf53, Cond.static yJ6_rotateLeft_7cf53, Cond.initialized RJ6, Cond.code yJ6_rotateLeft_7cf53 cJ6_rotateLeft_7cf53 2 (some .int), Cond.methodLink RX0 151 yX0_countOneMore, Cond.instanceMethod yX0_countOneMore, Cond.selects RX0 yX0_countOneMore yX0_countOneMore, Cond.code yX0_countOneMore cX0_countOneMore 2 none, Cond.methodLink RX0 105 yX0_unchainTape, Cond.instanceMethod yX0_unchainTape, Cond.selects RX0 yX0_unchainTape yX0_unchainTape, Cond.code yX0_unchainTape cX0_unchainTape 2 none, Cond.methodLink RX0 138 yX0_decipher, Cond.instanceMethod yX0_decipher, Cond.selects RX0 yX0_decipher yX0_decipher, Cond.code yX0_decipher cX0_decipher 4 none, Cond.methodLink RX0 157 yX0_unmix, Cond.static yX0_unmix, Cond.code yX0_unmix cX0_unmix 6 none, Cond.methodLink RX0 166 yJ6_rotateRight_7cf53, Cond.static yJ6_rotateRight_7cf53]
def wsX0_run_r4 : List Cond := [Cond.code yJ6_rotateRight_7cf53 cJ6_rotateRight_7cf53 2 (some .int), Cond.methodLink RX0 141 yX0_xorWithOneBefore, Cond.instanceMethod yX0_xorWithOneBefore, Cond.selects RX0 yX0_xorWithOneBefore yX0_xorWithOneBefore, Cond.code yX0_xorWithOneBefore cX0_xorWithOneBefore 2 none, Cond.methodLink RX0 108 yX0_chainTape, Cond.instanceMethod yX0_chainTape, Cond.selects RX0 yX0_chainTape yX0_chainTape, Cond.code yX0_chainTape cX0_chainTape 2 none, Cond.methodLink RX0 111 yX0_changeEachBlock, Cond.instanceMethod yX0_changeEachBlock, Cond.selects RX0 yX0_changeEachBlock yX0_changeEachBlock, Cond.code yX0_changeEachBlock cX0_changeEachBlock 3 none]
def wsX0_run : List Cond := .code yX0_run cX0_run 3 (some .int) :: ((wsX0_run_r1 ++ (wsX0_run_r2 ++ (wsX0_run_r3 ++ wsX0_run_r4))) ++ wsX00 ++ (vx_atS RX0 50 "java/lang/IllegalArgumentException" ["java/lang/RuntimeException", "java/lang/Exception"]).filter goodWord ++ (vx_atS RX0 92 "java/lang/IllegalStateException" ["java/lang/RuntimeException", "java/lang/Exception"]).filter goodWord)
def wsX0_seal_r1 : List Cond := [Cond.classLink RX0 39 "java/lang/IndexOutOfBoundsException", Cond.initialized "java/lang/IndexOutOfBoundsException", Cond.fieldLink RX0 25 "SlicedCipher" "scratch" "[I", Cond.fieldLink RX0 36 "SlicedCipher" "tapeLength" "I", Cond.fieldLink RX0 19 "SlicedCipher" "tape" "[I", Cond.methodLink RX0 73 yX0_needReadyKey, Cond.instanceMethod yX0_needReadyKey, Cond.selects RX0 yX0_needReadyKey yX0_needReadyKey, Cond.initialized RX0, Cond.code yX0_needReadyKey cX0_needReadyKey 1 none, Cond.classLink RX0 88 "java/lang/IllegalStateException", Cond.initialized "java/lang/IllegalStateException", Cond.fieldLink RX0 32 "SlicedCipher" "keyIsReady" "Z", Cond.methodLink RX0 99 yX0_needWholeBlocks, Cond.instanceMethod yX0_needWholeBlocks, Cond.selects RX0 yX0_needWholeBlocks yX0_needWholeBlocks, Cond.code yX0_needWholeBlocks cX0_needWholeBlocks 1 none, Cond.methodLink RX0 117 yX0_xorBlock, Cond.static yX0_xorBlock, Cond.code yX0_xorBlock cX0_xorBlock 5 none, Cond.methodLink RX0 121 yX0_encipher, Cond.instanceMethod yX0_encipher, Cond.selects RX0 yX0_encipher yX0_encipher, Cond.code yX0_encipher cX0_encipher 4 none]
def wsX0_seal_r2 : List Cond := [Cond.fieldLink RX0 13 "SlicedCipher" "schedule" "[I", Cond.methodLink RX0 58 yX0_roundKeyAt, Cond.static yX0_roundKeyAt, Cond.code yX0_roundKeyAt cX0_roundKeyAt 1 (some .int), Cond.methodLink RX0 67 yX0_passBox, Cond.static yX0_passBox, Cond.code yX0_passBox cX0_passBox 17 none, Cond.fieldLink RX0 83 "SlicedCipher" "BOXES" "[I", Cond.methodLink RX0 160 yX0_placesWith, Cond.static yX0_placesWith, Cond.code yX0_placesWith cX0_placesWith 2 (some .int), Cond.methodLink RX0 163 yX0_lowestBitEverywhere, Cond.static yX0_lowestBitEverywhere, Cond.code yX0_lowestBitEverywhere cX0_lowestBitEverywhere 1 (some .int), Cond.methodLink RX0 154 yX0_mix, Cond.static yX0_mix, Cond.code yX0_mix cX0_mix 6 none, Cond.methodLink RX0 133 yJ6_rotateLeft_7cf53, Cond.static yJ6_rotateLeft_7cf53, Cond.initialized RJ6, Cond.code yJ6_rotateLeft_7cf53 cJ6_rotateLeft_7cf53 2 (some .int)]
def wsX0_seal : List Cond := .code yX0_seal cX0_seal 3 (some .int) :: ((wsX0_seal_r1 ++ wsX0_seal_r2) ++ wsX00 ++ (vx_atS RX0 43 "java/lang/IndexOutOfBoundsException" ["java/lang/RuntimeException", "java/lang/Exception"]).filter goodWord ++ (vx_atS RX0 92 "java/lang/IllegalStateException" ["java/lang/RuntimeException", "java/lang/Exception"]).filter goodWord)
def wsX1_init : List Cond := .code yX1_init cX1_init 1 none :: ([.methodLink RX1 1 objectInit, .instanceMethod objectInit, .code objectInit ⟨#[0xb1]⟩ 1 none, .arrayClass .int, .fieldLink RX1 7 "SlicedCipherModel" "told" "[I", .fieldLink RX1 13 "SlicedCipherModel" "words" "[I", .fieldLink RX1 16 "SlicedCipherModel" "rounds" "[I", .fieldLink RX1 19 "SlicedCipherModel" "begin" "[I", .fieldLink RX1 22 "SlicedCipherModel" "tape" "[I", .fieldLink RX1 25 "SlicedCipherModel" "rows" "[I", .fieldLink RX1 28 "SlicedCipherModel" "block" "[I", .fieldLink RX1 31 "SlicedCipherModel" "made" "[I", .fieldLink RX1 34 "SlicedCipherModel" "last" "[I", .fieldLink RX1 37 "SlicedCipherModel" "size" "I"] ++ wsX10)
def wsX1_thrown : List Cond := .code yX1_thrown cX1_thrown 1 (some .int) :: ([.fieldLink RX1 41 "SlicedCipherModel" "thrown" "I"] ++ wsX10)
def wsX1_good : List Cond := .code yX1_good cX1_good 3 (some .boolean) :: ([.fieldLink RX1 41 "SlicedCipherModel" "thrown" "I"] ++ wsX10)
def wsX1_isIn : List Cond := .code yX1_isIn cX1_isIn 3 (some .boolean) :: ([])
def wsX1_back : List Cond := .code yX1_back cX1_back 4 (some .int) :: ([.fieldLink RX1 25 "SlicedCipherModel" "rows" "[I"] ++ wsX10)
def wsX1_through : List Cond := .code yX1_through cX1_through 7 none :: ([.fieldLink RX1 31 "SlicedCipherModel" "made" "[I", .fieldLink RX1 28 "SlicedCipherModel" "block" "[I", .fieldLink RX1 25 "SlicedCipherModel" "rows" "[I", .methodLink RX1 44 yX1_back, .instanceMethod yX1_back, .selects RX1 yX1_back yX1_back, .initialized RX1, .code yX1_back cX1_back 4 (some .int)] ++ wsX10)
def wsX1_left : List Cond := .code yX1_left cX1_left 4 (some .int) :: ([])
def wsX1_right : List Cond := .code yX1_right cX1_right 2 (some .int) :: ([.methodLink RX1 48 yX1_left, .static yX1_left, .initialized RX1, .code yX1_left cX1_left 4 (some .int)])
def wsX1_key : List Cond := .code yX1_key cX1_key 3 none :: ([.fieldLink RX1 7 "SlicedCipherModel" "told" "[I", .fieldLink RX1 59 "SlicedCipherModel" "ready" "Z", .methodLink RX1 51 yX1_isIn, .static yX1_isIn, .initialized RX1, .code yX1_isIn cX1_isIn 3 (some .boolean), .methodLink RX1 55 yX1_good, .instanceMethod yX1_good, .selects RX1 yX1_good yX1_good, .code yX1_good cX1_good 3 (some .boolean), .fieldLink RX1 41 "SlicedCipherModel" "thrown" "I"] ++ wsX10)
def wsX1_size : List Cond := .code yX1_size cX1_size 2 none :: ([.fieldLink RX1 63 "SlicedCipherModel" "bytes" "I", .fieldLink RX1 59 "SlicedCipherModel" "ready" "Z", .methodLink RX1 51 yX1_isIn, .static yX1_isIn, .initialized RX1, .code yX1_isIn cX1_isIn 3 (some .boolean), .methodLink RX1 55 yX1_good, .instanceMethod yX1_good, .selects RX1 yX1_good yX1_good, .code yX1_good cX1_good 3 (some .boolean), .fieldLink RX1 41 "SlicedCipherModel" "thrown" "I"] ++ wsX10)
def wsX1_keyByte : List Cond := .code yX1_keyByte cX1_keyByte 2 (some .int) :: ([.fieldLink RX1 63 "SlicedCipherModel" "bytes" "I", .fieldLink RX1 7 "SlicedCipherModel" "told" "[I"] ++ wsX10)
def wsX1_ready_r1 : List Cond := [Cond.fieldLink RX1 41 "SlicedCipherModel" "thrown" "I", Cond.fieldLink RX1 13 "SlicedCipherModel" "words" "[I", Cond.constant RX1 70 (-1640531527), Cond.fieldLink RX1 28 "SlicedCipherModel" "block" "[I", Cond.fieldLink RX1 16 "SlicedCipherModel" "rounds" "[I", Cond.fieldLink RX1 59 "SlicedCipherModel" "ready" "Z", Cond.methodLink RX1 66 yX1_keyByte, Cond.instanceMethod yX1_keyByte, Cond.selects RX1 yX1_keyByte yX1_keyByte, Cond.initialized RX1, Cond.code yX1_keyByte cX1_keyByte 2 (some .int), Cond.fieldLink RX1 63 "SlicedCipherModel" "bytes" "I", Cond.fieldLink RX1 7 "SlicedCipherModel" "told" "[I", Cond.methodLink RX1 48 yX1_left, Cond.static yX1_left, Cond.code yX1_left cX1_left 4 (some .int), Cond.methodLink RX1 71 yX1_through, Cond.instanceMethod yX1_through, Cond.selects RX1 yX1_through yX1_through, Cond.code yX1_through cX1_through 7 none, Cond.fieldLink RX1 31 "SlicedCipherModel" "made" "[I", Cond.fieldLink RX1 25 "SlicedCipherModel" "rows" "[I", Cond.methodLink RX1 44 yX1_back, Cond.instanceMethod yX1_back]
def wsX1_ready_r2 : List Cond := [Cond.selects RX1 yX1_back yX1_back, Cond.code yX1_back cX1_back 4 (some .int)]
def wsX1_ready : List Cond := .code yX1_ready cX1_ready 3 none :: ((wsX1_ready_r1 ++ wsX1_ready_r2) ++ wsX10)
def wsX1_round : List Cond := .code yX1_round cX1_round 3 (some .int) :: ([.fieldLink RX1 59 "SlicedCipherModel" "ready" "Z", .fieldLink RX1 16 "SlicedCipherModel" "rounds" "[I", .methodLink RX1 51 yX1_isIn, .static yX1_isIn, .initialized RX1, .code yX1_isIn cX1_isIn 3 (some .boolean), .methodLink RX1 55 yX1_good, .instanceMethod yX1_good, .selects RX1 yX1_good yX1_good, .code yX1_good cX1_good 3 (some .boolean), .fieldLink RX1 41 "SlicedCipherModel" "thrown" "I"] ++ wsX10)
def wsX1_box : List Cond := .code yX1_box cX1_box 4 (some .int) :: ([.fieldLink RX1 25 "SlicedCipherModel" "rows" "[I", .methodLink RX1 51 yX1_isIn, .static yX1_isIn, .initialized RX1, .code yX1_isIn cX1_isIn 3 (some .boolean), .methodLink RX1 55 yX1_good, .instanceMethod yX1_good, .selects RX1 yX1_good yX1_good, .code yX1_good cX1_good 3 (some .boolean), .fieldLink RX1 41 "SlicedCipherModel" "thrown" "I", .methodLink RX1 44 yX1_back, .instanceMethod yX1_back, .selects RX1 yX1_back yX1_back, .code yX1_back cX1_back 4 (some .int)] ++ wsX10)
def wsX1_start : List Cond := .code yX1_start cX1_start 3 none :: ([.fieldLink RX1 19 "SlicedCipherModel" "begin" "[I", .methodLink RX1 51 yX1_isIn, .static yX1_isIn, .initialized RX1, .code yX1_isIn cX1_isIn 3 (some .boolean), .methodLink RX1 55 yX1_good, .instanceMethod yX1_good, .selects RX1 yX1_good yX1_good, .code yX1_good cX1_good 3 (some .boolean), .fieldLink RX1 41 "SlicedCipherModel" "thrown" "I"] ++ wsX10)
def wsX1_put : List Cond := .code yX1_put cX1_put 5 (some .int) :: ([.fieldLink RX1 37 "SlicedCipherModel" "size" "I", .fieldLink RX1 22 "SlicedCipherModel" "tape" "[I", .methodLink RX1 55 yX1_good, .instanceMethod yX1_good, .selects RX1 yX1_good yX1_good, .initialized RX1, .code yX1_good cX1_good 3 (some .boolean), .fieldLink RX1 41 "SlicedCipherModel" "thrown" "I"] ++ wsX10)
def wsX1_cut : List Cond := .code yX1_cut cX1_cut 2 (some .int) :: ([.fieldLink RX1 37 "SlicedCipherModel" "size" "I", .methodLink RX1 51 yX1_isIn, .static yX1_isIn, .initialized RX1, .code yX1_isIn cX1_isIn 3 (some .boolean), .methodLink RX1 55 yX1_good, .instanceMethod yX1_good, .selects RX1 yX1_good yX1_good, .code yX1_good cX1_good 3 (some .boolean), .fieldLink RX1 41 "SlicedCipherModel" "thrown" "I"] ++ wsX10)
def wsX1_word : List Cond := .code yX1_word cX1_word 2 (some .int) :: ([.fieldLink RX1 37 "SlicedCipherModel" "size" "I", .fieldLink RX1 22 "SlicedCipherModel" "tape" "[I", .methodLink RX1 51 yX1_isIn, .static yX1_isIn, .initialized RX1, .code yX1_isIn cX1_isIn 3 (some .boolean), .methodLink RX1 55 yX1_good, .instanceMethod yX1_good, .selects RX1 yX1_good yX1_good, .code yX1_good cX1_good 3 (some .boolean), .fieldLink RX1 41 "SlicedCipherModel" "thrown" "I"] ++ wsX10)
def wsX1_xor : List Cond := .code yX1_xor cX1_xor 3 none :: ([.fieldLink RX1 28 "SlicedCipherModel" "block" "[I", .fieldLink RX1 16 "SlicedCipherModel" "rounds" "[I"] ++ wsX10)
def wsX1_mix : List Cond := .code yX1_mix cX1_mix 1 none :: ([.fieldLink RX1 28 "SlicedCipherModel" "block" "[I", .methodLink RX1 48 yX1_left, .static yX1_left, .initialized RX1, .code yX1_left cX1_left 4 (some .int)] ++ wsX10)
def wsX1_unmix : List Cond := .code yX1_unmix cX1_unmix 1 none :: ([.fieldLink RX1 28 "SlicedCipherModel" "block" "[I", .methodLink RX1 75 yX1_right, .static yX1_right, .initialized RX1, .code yX1_right cX1_right 2 (some .int), .methodLink RX1 48 yX1_left, .static yX1_left, .code yX1_left cX1_left 4 (some .int)] ++ wsX10)
def wsX1_forth : List Cond := .code yX1_forth cX1_forth 2 none :: ([.methodLink RX1 78 yX1_xor, .instanceMethod yX1_xor, .selects RX1 yX1_xor yX1_xor, .initialized RX1, .code yX1_xor cX1_xor 3 none, .fieldLink RX1 28 "SlicedCipherModel" "block" "[I", .fieldLink RX1 16 "SlicedCipherModel" "rounds" "[I", .methodLink RX1 71 yX1_through, .instanceMethod yX1_through, .selects RX1 yX1_through yX1_through, .code yX1_through cX1_through 7 none, .fieldLink RX1 31 "SlicedCipherModel" "made" "[I", .fieldLink RX1 25 "SlicedCipherModel" "rows" "[I", .methodLink RX1 44 yX1_back, .instanceMethod yX1_back, .selects RX1 yX1_back yX1_back, .code yX1_back cX1_back 4 (some .int), .methodLink RX1 82 yX1_mix, .instanceMethod yX1_mix, .selects RX1 yX1_mix yX1_mix, .code yX1_mix cX1_mix 1 none, .methodLink RX1 48 yX1_left, .static yX1_left, .code yX1_left cX1_left 4 (some .int)] ++ wsX10)
def wsX1_undo_r1 : List Cond := [Cond.methodLink RX1 78 yX1_xor, Cond.instanceMethod yX1_xor, Cond.selects RX1 yX1_xor yX1_xor, Cond.initialized RX1, Cond.code yX1_xor cX1_xor 3 none, Cond.fieldLink RX1 28 "SlicedCipherModel" "block" "[I", Cond.fieldLink RX1 16 "SlicedCipherModel" "rounds" "[I", Cond.methodLink RX1 85 yX1_unmix, Cond.instanceMethod yX1_unmix, Cond.selects RX1 yX1_unmix yX1_unmix, Cond.code yX1_unmix cX1_unmix 1 none, Cond.methodLink RX1 75 yX1_right, Cond.static yX1_right, Cond.code yX1_right cX1_right 2 (some .int), Cond.methodLink RX1 48 yX1_left, Cond.static yX1_left, Cond.code yX1_left cX1_left 4 (some .int), Cond.methodLink RX1 71 yX1_through, Cond.instanceMethod yX1_through, Cond.selects RX1 yX1_through yX1_through, Cond.code yX1_through cX1_through 7 none, Cond.fieldLink RX1 31 "SlicedCipherModel" "made" "[I", Cond.fieldLink RX1 25 "SlicedCipherModel" "rows" "[I", Cond.methodLink RX1 44 yX1_back]
def wsX1_undo_r2 : List Cond := [Cond.instanceMethod yX1_back, Cond.selects RX1 yX1_back yX1_back, Cond.code yX1_back cX1_back 4 (some .int)]
def wsX1_undo : List Cond := .code yX1_undo cX1_undo 2 none :: ((wsX1_undo_r1 ++ wsX1_undo_r2) ++ wsX10)
def wsX1_load : List Cond := .code yX1_load cX1_load 3 none :: ([.fieldLink RX1 28 "SlicedCipherModel" "block" "[I", .fieldLink RX1 22 "SlicedCipherModel" "tape" "[I"] ++ wsX10)
def wsX1_alone_r1 : List Cond := [Cond.fieldLink RX1 22 "SlicedCipherModel" "tape" "[I", Cond.fieldLink RX1 28 "SlicedCipherModel" "block" "[I", Cond.methodLink RX1 88 yX1_load, Cond.instanceMethod yX1_load, Cond.selects RX1 yX1_load yX1_load, Cond.initialized RX1, Cond.code yX1_load cX1_load 3 none, Cond.methodLink RX1 91 yX1_undo, Cond.instanceMethod yX1_undo, Cond.selects RX1 yX1_undo yX1_undo, Cond.code yX1_undo cX1_undo 2 none, Cond.methodLink RX1 78 yX1_xor, Cond.instanceMethod yX1_xor, Cond.selects RX1 yX1_xor yX1_xor, Cond.code yX1_xor cX1_xor 3 none, Cond.fieldLink RX1 16 "SlicedCipherModel" "rounds" "[I", Cond.methodLink RX1 85 yX1_unmix, Cond.instanceMethod yX1_unmix, Cond.selects RX1 yX1_unmix yX1_unmix, Cond.code yX1_unmix cX1_unmix 1 none, Cond.methodLink RX1 75 yX1_right, Cond.static yX1_right, Cond.code yX1_right cX1_right 2 (some .int), Cond.methodLink RX1 48 yX1_left]
def wsX1_alone_r2 : List Cond := [Cond.static yX1_left, Cond.code yX1_left cX1_left 4 (some .int), Cond.methodLink RX1 71 yX1_through, Cond.instanceMethod yX1_through, Cond.selects RX1 yX1_through yX1_through, Cond.code yX1_through cX1_through 7 none, Cond.fieldLink RX1 31 "SlicedCipherModel" "made" "[I", Cond.fieldLink RX1 25 "SlicedCipherModel" "rows" "[I", Cond.methodLink RX1 44 yX1_back, Cond.instanceMethod yX1_back, Cond.selects RX1 yX1_back yX1_back, Cond.code yX1_back cX1_back 4 (some .int), Cond.methodLink RX1 94 yX1_forth, Cond.instanceMethod yX1_forth, Cond.selects RX1 yX1_forth yX1_forth, Cond.code yX1_forth cX1_forth 2 none, Cond.methodLink RX1 82 yX1_mix, Cond.instanceMethod yX1_mix, Cond.selects RX1 yX1_mix yX1_mix, Cond.code yX1_mix cX1_mix 1 none]
def wsX1_alone : List Cond := .code yX1_alone cX1_alone 4 none :: ((wsX1_alone_r1 ++ wsX1_alone_r2) ++ wsX10)
def wsX1_chained_r1 : List Cond := [Cond.fieldLink RX1 31 "SlicedCipherModel" "made" "[I", Cond.fieldLink RX1 22 "SlicedCipherModel" "tape" "[I", Cond.fieldLink RX1 34 "SlicedCipherModel" "last" "[I", Cond.methodLink RX1 97 yX1_alone, Cond.instanceMethod yX1_alone, Cond.selects RX1 yX1_alone yX1_alone, Cond.initialized RX1, Cond.code yX1_alone cX1_alone 4 none, Cond.fieldLink RX1 28 "SlicedCipherModel" "block" "[I", Cond.methodLink RX1 88 yX1_load, Cond.instanceMethod yX1_load, Cond.selects RX1 yX1_load yX1_load, Cond.code yX1_load cX1_load 3 none, Cond.methodLink RX1 91 yX1_undo, Cond.instanceMethod yX1_undo, Cond.selects RX1 yX1_undo yX1_undo, Cond.code yX1_undo cX1_undo 2 none, Cond.methodLink RX1 78 yX1_xor, Cond.instanceMethod yX1_xor, Cond.selects RX1 yX1_xor yX1_xor, Cond.code yX1_xor cX1_xor 3 none, Cond.fieldLink RX1 16 "SlicedCipherModel" "rounds" "[I", Cond.methodLink RX1 85 yX1_unmix, Cond.instanceMethod yX1_unmix]
def wsX1_chained_r2 : List Cond := [Cond.selects RX1 yX1_unmix yX1_unmix, Cond.code yX1_unmix cX1_unmix 1 none, Cond.methodLink RX1 75 yX1_right, Cond.static yX1_right, Cond.code yX1_right cX1_right 2 (some .int), Cond.methodLink RX1 48 yX1_left, Cond.static yX1_left, Cond.code yX1_left cX1_left 4 (some .int), Cond.methodLink RX1 71 yX1_through, Cond.instanceMethod yX1_through, Cond.selects RX1 yX1_through yX1_through, Cond.code yX1_through cX1_through 7 none, Cond.fieldLink RX1 25 "SlicedCipherModel" "rows" "[I", Cond.methodLink RX1 44 yX1_back, Cond.instanceMethod yX1_back, Cond.selects RX1 yX1_back yX1_back, Cond.code yX1_back cX1_back 4 (some .int), Cond.methodLink RX1 94 yX1_forth, Cond.instanceMethod yX1_forth, Cond.selects RX1 yX1_forth yX1_forth, Cond.code yX1_forth cX1_forth 2 none, Cond.methodLink RX1 82 yX1_mix, Cond.instanceMethod yX1_mix, Cond.selects RX1 yX1_mix yX1_mix]
def wsX1_chained_r3 : List Cond := [Cond.code yX1_mix cX1_mix 1 none]
def wsX1_chained : List Cond := .code yX1_chained cX1_chained 8 none :: ((wsX1_chained_r1 ++ (wsX1_chained_r2 ++ wsX1_chained_r3)) ++ wsX10)
def wsX1_counted_r1 : List Cond := [Cond.fieldLink RX1 28 "SlicedCipherModel" "block" "[I", Cond.fieldLink RX1 34 "SlicedCipherModel" "last" "[I", Cond.fieldLink RX1 22 "SlicedCipherModel" "tape" "[I", Cond.methodLink RX1 94 yX1_forth, Cond.instanceMethod yX1_forth, Cond.selects RX1 yX1_forth yX1_forth, Cond.initialized RX1, Cond.code yX1_forth cX1_forth 2 none, Cond.methodLink RX1 78 yX1_xor, Cond.instanceMethod yX1_xor, Cond.selects RX1 yX1_xor yX1_xor, Cond.code yX1_xor cX1_xor 3 none, Cond.fieldLink RX1 16 "SlicedCipherModel" "rounds" "[I", Cond.methodLink RX1 71 yX1_through, Cond.instanceMethod yX1_through, Cond.selects RX1 yX1_through yX1_through, Cond.code yX1_through cX1_through 7 none, Cond.fieldLink RX1 31 "SlicedCipherModel" "made" "[I", Cond.fieldLink RX1 25 "SlicedCipherModel" "rows" "[I", Cond.methodLink RX1 44 yX1_back, Cond.instanceMethod yX1_back, Cond.selects RX1 yX1_back yX1_back, Cond.code yX1_back cX1_back 4 (some .int), Cond.methodLink RX1 82 yX1_mix]
def wsX1_counted_r2 : List Cond := [Cond.instanceMethod yX1_mix, Cond.selects RX1 yX1_mix yX1_mix, Cond.code yX1_mix cX1_mix 1 none, Cond.methodLink RX1 48 yX1_left, Cond.static yX1_left, Cond.code yX1_left cX1_left 4 (some .int)]
def wsX1_counted : List Cond := .code yX1_counted cX1_counted 4 none :: ((wsX1_counted_r1 ++ wsX1_counted_r2) ++ wsX10)
def wsX1_run_r1 : List Cond := [Cond.fieldLink RX1 59 "SlicedCipherModel" "ready" "Z", Cond.fieldLink RX1 37 "SlicedCipherModel" "size" "I", Cond.fieldLink RX1 34 "SlicedCipherModel" "last" "[I", Cond.fieldLink RX1 19 "SlicedCipherModel" "begin" "[I", Cond.methodLink RX1 51 yX1_isIn, Cond.static yX1_isIn, Cond.initialized RX1, Cond.code yX1_isIn cX1_isIn 3 (some .boolean), Cond.methodLink RX1 55 yX1_good, Cond.instanceMethod yX1_good, Cond.selects RX1 yX1_good yX1_good, Cond.code yX1_good cX1_good 3 (some .boolean), Cond.fieldLink RX1 41 "SlicedCipherModel" "thrown" "I", Cond.methodLink RX1 97 yX1_alone, Cond.instanceMethod yX1_alone, Cond.selects RX1 yX1_alone yX1_alone, Cond.code yX1_alone cX1_alone 4 none, Cond.fieldLink RX1 22 "SlicedCipherModel" "tape" "[I", Cond.fieldLink RX1 28 "SlicedCipherModel" "block" "[I", Cond.methodLink RX1 88 yX1_load, Cond.instanceMethod yX1_load, Cond.selects RX1 yX1_load yX1_load, Cond.code yX1_load cX1_load 3 none, Cond.methodLink RX1 91 yX1_undo]
def wsX1_run_r2 : List Cond := [Cond.instanceMethod yX1_undo, Cond.selects RX1 yX1_undo yX1_undo, Cond.code yX1_undo cX1_undo 2 none, Cond.methodLink RX1 78 yX1_xor, Cond.instanceMethod yX1_xor, Cond.selects RX1 yX1_xor yX1_xor, Cond.code yX1_xor cX1_xor 3 none, Cond.fieldLink RX1 16 "SlicedCipherModel" "rounds" "[I", Cond.methodLink RX1 85 yX1_unmix, Cond.instanceMethod yX1_unmix, Cond.selects RX1 yX1_unmix yX1_unmix, Cond.code yX1_unmix cX1_unmix 1 none, Cond.methodLink RX1 75 yX1_right, Cond.static yX1_right, Cond.code yX1_right cX1_right 2 (some .int), Cond.methodLink RX1 48 yX1_left, Cond.static yX1_left, Cond.code yX1_left cX1_left 4 (some .int), Cond.methodLink RX1 71 yX1_through, Cond.instanceMethod yX1_through, Cond.selects RX1 yX1_through yX1_through, Cond.code yX1_through cX1_through 7 none, Cond.fieldLink RX1 31 "SlicedCipherModel" "made" "[I", Cond.fieldLink RX1 25 "SlicedCipherModel" "rows" "[I"]
def wsX1_run_r3 : List Cond := [Cond.methodLink RX1 44 yX1_back, Cond.instanceMethod yX1_back, Cond.selects RX1 yX1_back yX1_back, Cond.code yX1_back cX1_back 4 (some .int), Cond.methodLink RX1 94 yX1_forth, Cond.instanceMethod yX1_forth, Cond.selects RX1 yX1_forth yX1_forth, Cond.code yX1_forth cX1_forth 2 none, Cond.methodLink RX1 82 yX1_mix, Cond.instanceMethod yX1_mix, Cond.selects RX1 yX1_mix yX1_mix, Cond.code yX1_mix cX1_mix 1 none, Cond.methodLink RX1 100 yX1_chained, Cond.instanceMethod yX1_chained, Cond.selects RX1 yX1_chained yX1_chained, Cond.code yX1_chained cX1_chained 8 none, Cond.methodLink RX1 103 yX1_counted, Cond.instanceMethod yX1_counted, Cond.selects RX1 yX1_counted yX1_counted, Cond.code yX1_counted cX1_counted 4 none]
def wsX1_run : List Cond := .code yX1_run cX1_run 4 (some .int) :: ((wsX1_run_r1 ++ (wsX1_run_r2 ++ wsX1_run_r3)) ++ wsX10)
def wsX1_seal_r1 : List Cond := [Cond.fieldLink RX1 59 "SlicedCipherModel" "ready" "Z", Cond.fieldLink RX1 37 "SlicedCipherModel" "size" "I", Cond.fieldLink RX1 34 "SlicedCipherModel" "last" "[I", Cond.fieldLink RX1 28 "SlicedCipherModel" "block" "[I", Cond.fieldLink RX1 22 "SlicedCipherModel" "tape" "[I", Cond.methodLink RX1 51 yX1_isIn, Cond.static yX1_isIn, Cond.initialized RX1, Cond.code yX1_isIn cX1_isIn 3 (some .boolean), Cond.methodLink RX1 55 yX1_good, Cond.instanceMethod yX1_good, Cond.selects RX1 yX1_good yX1_good, Cond.code yX1_good cX1_good 3 (some .boolean), Cond.fieldLink RX1 41 "SlicedCipherModel" "thrown" "I", Cond.methodLink RX1 94 yX1_forth, Cond.instanceMethod yX1_forth, Cond.selects RX1 yX1_forth yX1_forth, Cond.code yX1_forth cX1_forth 2 none, Cond.methodLink RX1 78 yX1_xor, Cond.instanceMethod yX1_xor, Cond.selects RX1 yX1_xor yX1_xor, Cond.code yX1_xor cX1_xor 3 none, Cond.fieldLink RX1 16 "SlicedCipherModel" "rounds" "[I", Cond.methodLink RX1 71 yX1_through]
def wsX1_seal_r2 : List Cond := [Cond.instanceMethod yX1_through, Cond.selects RX1 yX1_through yX1_through, Cond.code yX1_through cX1_through 7 none, Cond.fieldLink RX1 31 "SlicedCipherModel" "made" "[I", Cond.fieldLink RX1 25 "SlicedCipherModel" "rows" "[I", Cond.methodLink RX1 44 yX1_back, Cond.instanceMethod yX1_back, Cond.selects RX1 yX1_back yX1_back, Cond.code yX1_back cX1_back 4 (some .int), Cond.methodLink RX1 82 yX1_mix, Cond.instanceMethod yX1_mix, Cond.selects RX1 yX1_mix yX1_mix, Cond.code yX1_mix cX1_mix 1 none, Cond.methodLink RX1 48 yX1_left, Cond.static yX1_left, Cond.code yX1_left cX1_left 4 (some .int)]
def wsX1_seal : List Cond := .code yX1_seal cX1_seal 4 (some .int) :: ((wsX1_seal_r1 ++ wsX1_seal_r2) ++ wsX10)
def wsL_key : List Cond := .codeWith yL_key cL_key 4 (some .int) [(0, 6, 9, 13)] :: ([.classLink RL 13 "java/lang/IndexOutOfBoundsException", .methodLink RL 7 yX0_key, .instanceMethod yX0_key, .selects RX0 yX0_key yX0_key, .initialized RX0, .code yX0_key cX0_key 3 none, .classLink RX0 39 "java/lang/IndexOutOfBoundsException", .initialized "java/lang/IndexOutOfBoundsException", .fieldLink RX0 9 "SlicedCipher" "keyWords" "[I", .fieldLink RX0 32 "SlicedCipher" "keyIsReady" "Z"] ++ wsX00 ++ (vx_atS RX0 43 "java/lang/IndexOutOfBoundsException" ["java/lang/RuntimeException", "java/lang/Exception"]).filter goodWord)
def wsL_size : List Cond := .codeWith yL_size cL_size 3 (some .int) [(0, 5, 8, 19)] :: ([.classLink RL 19 "java/lang/IllegalArgumentException", .methodLink RL 15 yX0_size, .instanceMethod yX0_size, .selects RX0 yX0_size yX0_size, .initialized RX0, .code yX0_size cX0_size 2 none, .classLink RX0 46 "java/lang/IllegalArgumentException", .initialized "java/lang/IllegalArgumentException", .fieldLink RX0 28 "SlicedCipher" "keyBytes" "I", .fieldLink RX0 32 "SlicedCipher" "keyIsReady" "Z"] ++ wsX00 ++ (vx_atS RX0 50 "java/lang/IllegalArgumentException" ["java/lang/RuntimeException", "java/lang/Exception"]).filter goodWord)
def wsL_round : List Cond := .codeWith yL_round cL_round 5 (some .int) [(0, 10, 13, 13), (0, 10, 17, 25)] :: ([.classLink RL 13 "java/lang/IndexOutOfBoundsException", .classLink RL 25 "java/lang/IllegalStateException", .methodLink RL 21 yX0_round, .instanceMethod yX0_round, .selects RX0 yX0_round yX0_round, .initialized RX0, .code yX0_round cX0_round 3 (some .int), .classLink RX0 39 "java/lang/IndexOutOfBoundsException", .initialized "java/lang/IndexOutOfBoundsException", .fieldLink RX0 13 "SlicedCipher" "schedule" "[I", .methodLink RX0 73 yX0_needReadyKey, .instanceMethod yX0_needReadyKey, .selects RX0 yX0_needReadyKey yX0_needReadyKey, .code yX0_needReadyKey cX0_needReadyKey 1 none, .classLink RX0 88 "java/lang/IllegalStateException", .initialized "java/lang/IllegalStateException", .fieldLink RX0 32 "SlicedCipher" "keyIsReady" "Z", .methodLink RX0 58 yX0_roundKeyAt, .static yX0_roundKeyAt, .code yX0_roundKeyAt cX0_roundKeyAt 1 (some .int)] ++ wsX00 ++ (vx_atS RX0 43 "java/lang/IndexOutOfBoundsException" ["java/lang/RuntimeException", "java/lang/Exception"]).filter goodWord ++ (vx_atS RX0 92 "java/lang/IllegalStateException" ["java/lang/RuntimeException", "java/lang/Exception"]).filter goodWord)
def wsL_box : List Cond := .codeWith yL_box cL_box 6 (some .int) [(0, 12, 15, 13), (0, 12, 19, 19)] :: ([.classLink RL 13 "java/lang/IndexOutOfBoundsException", .classLink RL 19 "java/lang/IllegalArgumentException", .methodLink RL 27 yX0_box, .instanceMethod yX0_box, .selects RX0 yX0_box yX0_box, .initialized RX0, .code yX0_box cX0_box 4 (some .int), .classLink RX0 39 "java/lang/IndexOutOfBoundsException", .initialized "java/lang/IndexOutOfBoundsException", .classLink RX0 46 "java/lang/IllegalArgumentException", .initialized "java/lang/IllegalArgumentException", .fieldLink RX0 83 "SlicedCipher" "BOXES" "[I", .methodLink RX0 80 yX0_sourceInBox, .static yX0_sourceInBox, .code yX0_sourceInBox cX0_sourceInBox 4 (some .int)] ++ (vx_atS RX0 43 "java/lang/IndexOutOfBoundsException" ["java/lang/RuntimeException", "java/lang/Exception"]).filter goodWord ++ (vx_atS RX0 50 "java/lang/IllegalArgumentException" ["java/lang/RuntimeException", "java/lang/Exception"]).filter goodWord)
def wsL_start : List Cond := .codeWith yL_start cL_start 4 (some .int) [(0, 6, 9, 13)] :: ([.classLink RL 13 "java/lang/IndexOutOfBoundsException", .methodLink RL 31 yX0_start, .instanceMethod yX0_start, .selects RX0 yX0_start yX0_start, .initialized RX0, .code yX0_start cX0_start 3 none, .classLink RX0 39 "java/lang/IndexOutOfBoundsException", .initialized "java/lang/IndexOutOfBoundsException", .fieldLink RX0 16 "SlicedCipher" "startWords" "[I"] ++ wsX00 ++ (vx_atS RX0 43 "java/lang/IndexOutOfBoundsException" ["java/lang/RuntimeException", "java/lang/Exception"]).filter goodWord)
def wsL_put : List Cond := .codeWith yL_put cL_put 7 (some .int) [(0, 14, 17, 25)] :: ([.classLink RL 25 "java/lang/IllegalStateException", .methodLink RL 34 yX0_put, .instanceMethod yX0_put, .selects RX0 yX0_put yX0_put, .initialized RX0, .code yX0_put cX0_put 5 (some .int), .classLink RX0 88 "java/lang/IllegalStateException", .initialized "java/lang/IllegalStateException", .fieldLink RX0 36 "SlicedCipher" "tapeLength" "I", .fieldLink RX0 19 "SlicedCipher" "tape" "[I"] ++ wsX00 ++ (vx_atS RX0 92 "java/lang/IllegalStateException" ["java/lang/RuntimeException", "java/lang/Exception"]).filter goodWord)
def wsL_cut : List Cond := .codeWith yL_cut cL_cut 4 (some .int) [(0, 9, 12, 19)] :: ([.classLink RL 19 "java/lang/IllegalArgumentException", .methodLink RL 38 yX0_cut, .instanceMethod yX0_cut, .selects RX0 yX0_cut yX0_cut, .initialized RX0, .code yX0_cut cX0_cut 2 (some .int), .classLink RX0 46 "java/lang/IllegalArgumentException", .initialized "java/lang/IllegalArgumentException", .fieldLink RX0 36 "SlicedCipher" "tapeLength" "I"] ++ wsX00 ++ (vx_atS RX0 50 "java/lang/IllegalArgumentException" ["java/lang/RuntimeException", "java/lang/Exception"]).filter goodWord)
def wsL_word : List Cond := .codeWith yL_word cL_word 4 (some .int) [(0, 9, 12, 13)] :: ([.classLink RL 13 "java/lang/IndexOutOfBoundsException", .methodLink RL 42 yX0_word, .instanceMethod yX0_word, .selects RX0 yX0_word yX0_word, .initialized RX0, .code yX0_word cX0_word 2 (some .int), .classLink RX0 39 "java/lang/IndexOutOfBoundsException", .initialized "java/lang/IndexOutOfBoundsException", .fieldLink RX0 36 "SlicedCipher" "tapeLength" "I", .fieldLink RX0 19 "SlicedCipher" "tape" "[I"] ++ wsX00 ++ (vx_atS RX0 43 "java/lang/IndexOutOfBoundsException" ["java/lang/RuntimeException", "java/lang/Exception"]).filter goodWord)
def wsL_run_r1 : List Cond := [Cond.classLink RL 19 "java/lang/IllegalArgumentException", Cond.classLink RL 25 "java/lang/IllegalStateException", Cond.methodLink RL 45 yX0_run, Cond.instanceMethod yX0_run, Cond.selects RX0 yX0_run yX0_run, Cond.initialized RX0, Cond.code yX0_run cX0_run 3 (some .int), Cond.classLink RX0 46 "java/lang/IllegalArgumentException", Cond.initialized "java/lang/IllegalArgumentException", Cond.fieldLink RX0 36 "SlicedCipher" "tapeLength" "I", Cond.methodLink RX0 73 yX0_needReadyKey, Cond.instanceMethod yX0_needReadyKey, Cond.selects RX0 yX0_needReadyKey yX0_needReadyKey, Cond.code yX0_needReadyKey cX0_needReadyKey 1 none, Cond.classLink RX0 88 "java/lang/IllegalStateException", Cond.initialized "java/lang/IllegalStateException", Cond.fieldLink RX0 32 "SlicedCipher" "keyIsReady" "Z", Cond.methodLink RX0 99 yX0_needWholeBlocks, Cond.instanceMethod yX0_needWholeBlocks, Cond.selects RX0 yX0_needWholeBlocks yX0_needWholeBlocks, Cond.code yX0_needWholeBlocks cX0_needWholeBlocks 1 none, Cond.methodLink RX0 102 yX0_maskByCounter, Cond.instanceMethod yX0_maskByCounter, Cond.selects RX0 yX0_maskByCounter yX0_maskByCounter]
def wsL_run_r2 : List Cond := [Cond.code yX0_maskByCounter cX0_maskByCounter 2 none, Cond.fieldLink RX0 16 "SlicedCipher" "startWords" "[I", Cond.fieldLink RX0 22 "SlicedCipher" "counter" "[I", Cond.methodLink RX0 145 arraycopyName, Cond.native arraycopyName, Cond.static arraycopyName, Cond.initialized "java/lang/System", Cond.fieldLink RX0 25 "SlicedCipher" "scratch" "[I", Cond.fieldLink RX0 19 "SlicedCipher" "tape" "[I", Cond.methodLink RX0 121 yX0_encipher, Cond.instanceMethod yX0_encipher, Cond.selects RX0 yX0_encipher yX0_encipher, Cond.code yX0_encipher cX0_encipher 4 none, Cond.fieldLink RX0 13 "SlicedCipher" "schedule" "[I", Cond.methodLink RX0 58 yX0_roundKeyAt, Cond.static yX0_roundKeyAt, Cond.code yX0_roundKeyAt cX0_roundKeyAt 1 (some .int), Cond.methodLink RX0 117 yX0_xorBlock, Cond.static yX0_xorBlock, Cond.code yX0_xorBlock cX0_xorBlock 5 none, Cond.methodLink RX0 67 yX0_passBox, Cond.static yX0_passBox, Cond.code yX0_passBox cX0_passBox 17 none, Cond.fieldLink RX0 83 "SlicedCipher" "BOXES" "[I"]
def wsL_run_r3 : List Cond := [Cond.methodLink RX0 160 yX0_placesWith, Cond.static yX0_placesWith, Cond.code yX0_placesWith cX0_placesWith 2 (some .int), Cond.methodLink RX0 163 yX0_lowestBitEverywhere, Cond.static yX0_lowestBitEverywhere, Cond.code yX0_lowestBitEverywhere cX0_lowestBitEverywhere 1 (some .int), Cond.methodLink RX0 154 yX0_mix, Cond.static yX0_mix, Cond.code yX0_mix cX0_mix 6 none, Cond.methodLink RX0 133 yJ6_rotateLeft_7cf53, Cond.static yJ6_rotateLeft_7cf53, Cond.initialized RJ6, Cond.code yJ6_rotateLeft_7cf53 cJ6_rotateLeft_7cf53 2 (some .int), Cond.methodLink RX0 151 yX0_countOneMore, Cond.instanceMethod yX0_countOneMore, Cond.selects RX0 yX0_countOneMore yX0_countOneMore, Cond.code yX0_countOneMore cX0_countOneMore 2 none, Cond.methodLink RX0 105 yX0_unchainTape, Cond.instanceMethod yX0_unchainTape, Cond.selects RX0 yX0_unchainTape yX0_unchainTape, Cond.code yX0_unchainTape cX0_unchainTape 2 none, Cond.methodLink RX0 138 yX0_decipher, Cond.instanceMethod yX0_decipher, Cond.selects RX0 yX0_decipher yX0_decipher]
def wsL_run_r4 : List Cond := [Cond.code yX0_decipher cX0_decipher 4 none, Cond.methodLink RX0 157 yX0_unmix, Cond.static yX0_unmix, Cond.code yX0_unmix cX0_unmix 6 none, Cond.methodLink RX0 166 yJ6_rotateRight_7cf53, Cond.static yJ6_rotateRight_7cf53, Cond.code yJ6_rotateRight_7cf53 cJ6_rotateRight_7cf53 2 (some .int), Cond.methodLink RX0 141 yX0_xorWithOneBefore, Cond.instanceMethod yX0_xorWithOneBefore, Cond.selects RX0 yX0_xorWithOneBefore yX0_xorWithOneBefore, Cond.code yX0_xorWithOneBefore cX0_xorWithOneBefore 2 none, Cond.methodLink RX0 108 yX0_chainTape, Cond.instanceMethod yX0_chainTape, Cond.selects RX0 yX0_chainTape yX0_chainTape, Cond.code yX0_chainTape cX0_chainTape 2 none, Cond.methodLink RX0 111 yX0_changeEachBlock, Cond.instanceMethod yX0_changeEachBlock, Cond.selects RX0 yX0_changeEachBlock yX0_changeEachBlock, Cond.code yX0_changeEachBlock cX0_changeEachBlock 3 none]
def wsL_run : List Cond := .codeWith yL_run cL_run 5 (some .int) [(0, 10, 13, 19), (0, 10, 17, 25)] :: ((wsL_run_r1 ++ (wsL_run_r2 ++ (wsL_run_r3 ++ wsL_run_r4))) ++ wsX00 ++ (vx_atS RX0 50 "java/lang/IllegalArgumentException" ["java/lang/RuntimeException", "java/lang/Exception"]).filter goodWord ++ (vx_atS RX0 92 "java/lang/IllegalStateException" ["java/lang/RuntimeException", "java/lang/Exception"]).filter goodWord)
def wsL_seal_r1 : List Cond := [Cond.classLink RL 13 "java/lang/IndexOutOfBoundsException", Cond.classLink RL 25 "java/lang/IllegalStateException", Cond.methodLink RL 49 yX0_seal, Cond.instanceMethod yX0_seal, Cond.selects RX0 yX0_seal yX0_seal, Cond.initialized RX0, Cond.code yX0_seal cX0_seal 3 (some .int), Cond.classLink RX0 39 "java/lang/IndexOutOfBoundsException", Cond.initialized "java/lang/IndexOutOfBoundsException", Cond.fieldLink RX0 25 "SlicedCipher" "scratch" "[I", Cond.fieldLink RX0 36 "SlicedCipher" "tapeLength" "I", Cond.fieldLink RX0 19 "SlicedCipher" "tape" "[I", Cond.methodLink RX0 73 yX0_needReadyKey, Cond.instanceMethod yX0_needReadyKey, Cond.selects RX0 yX0_needReadyKey yX0_needReadyKey, Cond.code yX0_needReadyKey cX0_needReadyKey 1 none, Cond.classLink RX0 88 "java/lang/IllegalStateException", Cond.initialized "java/lang/IllegalStateException", Cond.fieldLink RX0 32 "SlicedCipher" "keyIsReady" "Z", Cond.methodLink RX0 99 yX0_needWholeBlocks, Cond.instanceMethod yX0_needWholeBlocks, Cond.selects RX0 yX0_needWholeBlocks yX0_needWholeBlocks, Cond.code yX0_needWholeBlocks cX0_needWholeBlocks 1 none, Cond.methodLink RX0 117 yX0_xorBlock]
def wsL_seal_r2 : List Cond := [Cond.static yX0_xorBlock, Cond.code yX0_xorBlock cX0_xorBlock 5 none, Cond.methodLink RX0 121 yX0_encipher, Cond.instanceMethod yX0_encipher, Cond.selects RX0 yX0_encipher yX0_encipher, Cond.code yX0_encipher cX0_encipher 4 none, Cond.fieldLink RX0 13 "SlicedCipher" "schedule" "[I", Cond.methodLink RX0 58 yX0_roundKeyAt, Cond.static yX0_roundKeyAt, Cond.code yX0_roundKeyAt cX0_roundKeyAt 1 (some .int), Cond.methodLink RX0 67 yX0_passBox, Cond.static yX0_passBox, Cond.code yX0_passBox cX0_passBox 17 none, Cond.fieldLink RX0 83 "SlicedCipher" "BOXES" "[I", Cond.methodLink RX0 160 yX0_placesWith, Cond.static yX0_placesWith, Cond.code yX0_placesWith cX0_placesWith 2 (some .int), Cond.methodLink RX0 163 yX0_lowestBitEverywhere, Cond.static yX0_lowestBitEverywhere, Cond.code yX0_lowestBitEverywhere cX0_lowestBitEverywhere 1 (some .int), Cond.methodLink RX0 154 yX0_mix, Cond.static yX0_mix, Cond.code yX0_mix cX0_mix 6 none, Cond.methodLink RX0 133 yJ6_rotateLeft_7cf53]
def wsL_seal_r3 : List Cond := [Cond.static yJ6_rotateLeft_7cf53, Cond.initialized RJ6, Cond.code yJ6_rotateLeft_7cf53 cJ6_rotateLeft_7cf53 2 (some .int)]
def wsL_seal : List Cond := .codeWith yL_seal cL_seal 4 (some .int) [(0, 9, 12, 13), (0, 9, 15, 25)] :: ((wsL_seal_r1 ++ (wsL_seal_r2 ++ wsL_seal_r3)) ++ wsX00 ++ (vx_atS RX0 43 "java/lang/IndexOutOfBoundsException" ["java/lang/RuntimeException", "java/lang/Exception"]).filter goodWord ++ (vx_atS RX0 92 "java/lang/IllegalStateException" ["java/lang/RuntimeException", "java/lang/Exception"]).filter goodWord)
def wsL_law0_r1 : List Cond := [Cond.classLink RL 8 RX0, Cond.instantiable RX0 9, Cond.initialized RX0, Cond.classLink RL 53 RX1, Cond.instantiable RX1 13, Cond.initialized RX1, Cond.arrayClass .long, Cond.methodLink RL 52 yX0_init, Cond.instanceMethod yX0_init, Cond.code yX0_init cX0_init 1 none, Cond.methodLink RX0 3 objectInit, Cond.instanceMethod objectInit, Cond.code objectInit ⟨#[0xb1]⟩ 1 none, Cond.arrayClass .int, Cond.fieldLink RX0 9 "SlicedCipher" "keyWords" "[I", Cond.fieldLink RX0 13 "SlicedCipher" "schedule" "[I", Cond.fieldLink RX0 16 "SlicedCipher" "startWords" "[I", Cond.fieldLink RX0 19 "SlicedCipher" "tape" "[I", Cond.fieldLink RX0 22 "SlicedCipher" "counter" "[I", Cond.fieldLink RX0 25 "SlicedCipher" "scratch" "[I", Cond.fieldLink RX0 28 "SlicedCipher" "keyBytes" "I", Cond.fieldLink RX0 32 "SlicedCipher" "keyIsReady" "Z", Cond.fieldLink RX0 36 "SlicedCipher" "tapeLength" "I", Cond.methodLink RL 55 yX1_init]
def wsL_law0_r2 : List Cond := [Cond.instanceMethod yX1_init, Cond.code yX1_init cX1_init 1 none, Cond.methodLink RX1 1 objectInit, Cond.fieldLink RX1 7 "SlicedCipherModel" "told" "[I", Cond.fieldLink RX1 13 "SlicedCipherModel" "words" "[I", Cond.fieldLink RX1 16 "SlicedCipherModel" "rounds" "[I", Cond.fieldLink RX1 19 "SlicedCipherModel" "begin" "[I", Cond.fieldLink RX1 22 "SlicedCipherModel" "tape" "[I", Cond.fieldLink RX1 25 "SlicedCipherModel" "rows" "[I", Cond.fieldLink RX1 28 "SlicedCipherModel" "block" "[I", Cond.fieldLink RX1 31 "SlicedCipherModel" "made" "[I", Cond.fieldLink RX1 34 "SlicedCipherModel" "last" "[I", Cond.fieldLink RX1 37 "SlicedCipherModel" "size" "I", Cond.methodLink RL 56 yL_key, Cond.static yL_key, Cond.initialized RL, Cond.codeWith yL_key cL_key 4 (some .int) [(0, 6, 9, 13)], Cond.classLink RL 13 "java/lang/IndexOutOfBoundsException", Cond.methodLink RL 7 yX0_key, Cond.instanceMethod yX0_key, Cond.selects RX0 yX0_key yX0_key, Cond.code yX0_key cX0_key 3 none, Cond.classLink RX0 39 "java/lang/IndexOutOfBoundsException", Cond.initialized "java/lang/IndexOutOfBoundsException"]
def wsL_law0_r3 : List Cond := [Cond.methodLink RL 61 yX1_key, Cond.instanceMethod yX1_key, Cond.selects RX1 yX1_key yX1_key, Cond.code yX1_key cX1_key 3 none, Cond.fieldLink RX1 59 "SlicedCipherModel" "ready" "Z", Cond.methodLink RX1 51 yX1_isIn, Cond.static yX1_isIn, Cond.code yX1_isIn cX1_isIn 3 (some .boolean), Cond.methodLink RX1 55 yX1_good, Cond.instanceMethod yX1_good, Cond.selects RX1 yX1_good yX1_good, Cond.code yX1_good cX1_good 3 (some .boolean), Cond.fieldLink RX1 41 "SlicedCipherModel" "thrown" "I", Cond.methodLink RL 62 yX1_thrown, Cond.instanceMethod yX1_thrown, Cond.selects RX1 yX1_thrown yX1_thrown, Cond.code yX1_thrown cX1_thrown 1 (some .int), Cond.methodLink RL 66 yL_size, Cond.static yL_size, Cond.codeWith yL_size cL_size 3 (some .int) [(0, 5, 8, 19)], Cond.classLink RL 19 "java/lang/IllegalArgumentException", Cond.methodLink RL 15 yX0_size, Cond.instanceMethod yX0_size, Cond.selects RX0 yX0_size yX0_size]
def wsL_law0_r4 : List Cond := [Cond.code yX0_size cX0_size 2 none, Cond.classLink RX0 46 "java/lang/IllegalArgumentException", Cond.initialized "java/lang/IllegalArgumentException", Cond.methodLink RL 69 yX1_size, Cond.instanceMethod yX1_size, Cond.selects RX1 yX1_size yX1_size, Cond.code yX1_size cX1_size 2 none, Cond.fieldLink RX1 63 "SlicedCipherModel" "bytes" "I", Cond.methodLink RL 70 yX0_ready, Cond.instanceMethod yX0_ready, Cond.selects RX0 yX0_ready yX0_ready, Cond.code yX0_ready cX0_ready 2 none, Cond.methodLink RX0 51 yX0_paddedKeyWord, Cond.instanceMethod yX0_paddedKeyWord, Cond.selects RX0 yX0_paddedKeyWord yX0_paddedKeyWord, Cond.code yX0_paddedKeyWord cX0_paddedKeyWord 4 (some .int), Cond.methodLink RX0 129 yX0_paddedKeyByte, Cond.instanceMethod yX0_paddedKeyByte, Cond.selects RX0 yX0_paddedKeyByte yX0_paddedKeyByte, Cond.code yX0_paddedKeyByte cX0_paddedKeyByte 2 (some .int), Cond.methodLink RX0 55 yX0_spreadKey, Cond.instanceMethod yX0_spreadKey, Cond.selects RX0 yX0_spreadKey yX0_spreadKey, Cond.code yX0_spreadKey cX0_spreadKey 4 none]
def wsL_law0_r5 : List Cond := [Cond.constant RX0 132 (-1640531527), Cond.methodLink RX0 133 yJ6_rotateLeft_7cf53, Cond.static yJ6_rotateLeft_7cf53, Cond.initialized RJ6, Cond.code yJ6_rotateLeft_7cf53 cJ6_rotateLeft_7cf53 2 (some .int), Cond.methodLink RX0 58 yX0_roundKeyAt, Cond.static yX0_roundKeyAt, Cond.code yX0_roundKeyAt cX0_roundKeyAt 1 (some .int), Cond.methodLink RX0 61 yJ9_floorMod_7cf53, Cond.static yJ9_floorMod_7cf53, Cond.initialized RJ9, Cond.code yJ9_floorMod_7cf53 cJ9_floorMod_7cf53 3 (some .int), Cond.methodLink RX0 67 yX0_passBox, Cond.static yX0_passBox, Cond.code yX0_passBox cX0_passBox 17 none, Cond.fieldLink RX0 83 "SlicedCipher" "BOXES" "[I", Cond.methodLink RX0 160 yX0_placesWith, Cond.static yX0_placesWith, Cond.code yX0_placesWith cX0_placesWith 2 (some .int), Cond.methodLink RX0 163 yX0_lowestBitEverywhere, Cond.static yX0_lowestBitEverywhere, Cond.code yX0_lowestBitEverywhere cX0_lowestBitEverywhere 1 (some .int), Cond.methodLink RL 73 yX1_ready, Cond.instanceMethod yX1_ready]
def wsL_law0_r6 : List Cond := [Cond.selects RX1 yX1_ready yX1_ready, Cond.code yX1_ready cX1_ready 3 none, Cond.constant RX1 70 (-1640531527), Cond.methodLink RX1 66 yX1_keyByte, Cond.instanceMethod yX1_keyByte, Cond.selects RX1 yX1_keyByte yX1_keyByte, Cond.code yX1_keyByte cX1_keyByte 2 (some .int), Cond.methodLink RX1 48 yX1_left, Cond.static yX1_left, Cond.code yX1_left cX1_left 4 (some .int), Cond.methodLink RX1 71 yX1_through, Cond.instanceMethod yX1_through, Cond.selects RX1 yX1_through yX1_through, Cond.code yX1_through cX1_through 7 none, Cond.methodLink RX1 44 yX1_back, Cond.instanceMethod yX1_back, Cond.selects RX1 yX1_back yX1_back, Cond.code yX1_back cX1_back 4 (some .int), Cond.methodLink RL 74 yL_round, Cond.static yL_round, Cond.codeWith yL_round cL_round 5 (some .int) [(0, 10, 13, 13), (0, 10, 17, 25)], Cond.classLink RL 25 "java/lang/IllegalStateException", Cond.methodLink RL 21 yX0_round, Cond.instanceMethod yX0_round]
def wsL_law0_r7 : List Cond := [Cond.selects RX0 yX0_round yX0_round, Cond.code yX0_round cX0_round 3 (some .int), Cond.methodLink RX0 73 yX0_needReadyKey, Cond.instanceMethod yX0_needReadyKey, Cond.selects RX0 yX0_needReadyKey yX0_needReadyKey, Cond.code yX0_needReadyKey cX0_needReadyKey 1 none, Cond.classLink RX0 88 "java/lang/IllegalStateException", Cond.initialized "java/lang/IllegalStateException", Cond.methodLink RL 77 yX1_round, Cond.instanceMethod yX1_round, Cond.selects RX1 yX1_round yX1_round, Cond.code yX1_round cX1_round 3 (some .int), Cond.methodLink RL 78 yL_box, Cond.static yL_box, Cond.codeWith yL_box cL_box 6 (some .int) [(0, 12, 15, 13), (0, 12, 19, 19)], Cond.methodLink RL 27 yX0_box, Cond.instanceMethod yX0_box, Cond.selects RX0 yX0_box yX0_box, Cond.code yX0_box cX0_box 4 (some .int), Cond.methodLink RX0 80 yX0_sourceInBox, Cond.static yX0_sourceInBox, Cond.code yX0_sourceInBox cX0_sourceInBox 4 (some .int), Cond.methodLink RL 81 yX1_box, Cond.instanceMethod yX1_box]
def wsL_law0_r8 : List Cond := [Cond.selects RX1 yX1_box yX1_box, Cond.code yX1_box cX1_box 4 (some .int), Cond.methodLink RL 82 yL_start, Cond.static yL_start, Cond.codeWith yL_start cL_start 4 (some .int) [(0, 6, 9, 13)], Cond.methodLink RL 31 yX0_start, Cond.instanceMethod yX0_start, Cond.selects RX0 yX0_start yX0_start, Cond.code yX0_start cX0_start 3 none, Cond.methodLink RL 84 yX1_start, Cond.instanceMethod yX1_start, Cond.selects RX1 yX1_start yX1_start, Cond.code yX1_start cX1_start 3 none, Cond.methodLink RL 85 yL_put, Cond.static yL_put, Cond.codeWith yL_put cL_put 7 (some .int) [(0, 14, 17, 25)], Cond.methodLink RL 34 yX0_put, Cond.instanceMethod yX0_put, Cond.selects RX0 yX0_put yX0_put, Cond.code yX0_put cX0_put 5 (some .int), Cond.methodLink RL 88 yX1_put, Cond.instanceMethod yX1_put, Cond.selects RX1 yX1_put yX1_put, Cond.code yX1_put cX1_put 5 (some .int)]
def wsL_law0_r9 : List Cond := [Cond.methodLink RL 89 yL_cut, Cond.static yL_cut, Cond.codeWith yL_cut cL_cut 4 (some .int) [(0, 9, 12, 19)], Cond.methodLink RL 38 yX0_cut, Cond.instanceMethod yX0_cut, Cond.selects RX0 yX0_cut yX0_cut, Cond.code yX0_cut cX0_cut 2 (some .int), Cond.methodLink RL 92 yX1_cut, Cond.instanceMethod yX1_cut, Cond.selects RX1 yX1_cut yX1_cut, Cond.code yX1_cut cX1_cut 2 (some .int), Cond.methodLink RL 93 yL_word, Cond.static yL_word, Cond.codeWith yL_word cL_word 4 (some .int) [(0, 9, 12, 13)], Cond.methodLink RL 42 yX0_word, Cond.instanceMethod yX0_word, Cond.selects RX0 yX0_word yX0_word, Cond.code yX0_word cX0_word 2 (some .int), Cond.methodLink RL 95 yX1_word, Cond.instanceMethod yX1_word, Cond.selects RX1 yX1_word yX1_word, Cond.code yX1_word cX1_word 2 (some .int), Cond.methodLink RL 96 yL_run, Cond.static yL_run]
def wsL_law0_r10 : List Cond := [Cond.codeWith yL_run cL_run 5 (some .int) [(0, 10, 13, 19), (0, 10, 17, 25)], Cond.methodLink RL 45 yX0_run, Cond.instanceMethod yX0_run, Cond.selects RX0 yX0_run yX0_run, Cond.code yX0_run cX0_run 3 (some .int), Cond.methodLink RX0 99 yX0_needWholeBlocks, Cond.instanceMethod yX0_needWholeBlocks, Cond.selects RX0 yX0_needWholeBlocks yX0_needWholeBlocks, Cond.code yX0_needWholeBlocks cX0_needWholeBlocks 1 none, Cond.methodLink RX0 102 yX0_maskByCounter, Cond.instanceMethod yX0_maskByCounter, Cond.selects RX0 yX0_maskByCounter yX0_maskByCounter, Cond.code yX0_maskByCounter cX0_maskByCounter 2 none, Cond.methodLink RX0 145 arraycopyName, Cond.native arraycopyName, Cond.static arraycopyName, Cond.initialized "java/lang/System", Cond.methodLink RX0 121 yX0_encipher, Cond.instanceMethod yX0_encipher, Cond.selects RX0 yX0_encipher yX0_encipher, Cond.code yX0_encipher cX0_encipher 4 none, Cond.methodLink RX0 117 yX0_xorBlock, Cond.static yX0_xorBlock, Cond.code yX0_xorBlock cX0_xorBlock 5 none]
def wsL_law0_r11 : List Cond := [Cond.methodLink RX0 154 yX0_mix, Cond.static yX0_mix, Cond.code yX0_mix cX0_mix 6 none, Cond.methodLink RX0 151 yX0_countOneMore, Cond.instanceMethod yX0_countOneMore, Cond.selects RX0 yX0_countOneMore yX0_countOneMore, Cond.code yX0_countOneMore cX0_countOneMore 2 none, Cond.methodLink RX0 105 yX0_unchainTape, Cond.instanceMethod yX0_unchainTape, Cond.selects RX0 yX0_unchainTape yX0_unchainTape, Cond.code yX0_unchainTape cX0_unchainTape 2 none, Cond.methodLink RX0 138 yX0_decipher, Cond.instanceMethod yX0_decipher, Cond.selects RX0 yX0_decipher yX0_decipher, Cond.code yX0_decipher cX0_decipher 4 none, Cond.methodLink RX0 157 yX0_unmix, Cond.static yX0_unmix, Cond.code yX0_unmix cX0_unmix 6 none, Cond.methodLink RX0 166 yJ6_rotateRight_7cf53, Cond.static yJ6_rotateRight_7cf53, Cond.code yJ6_rotateRight_7cf53 cJ6_rotateRight_7cf53 2 (some .int), Cond.methodLink RX0 141 yX0_xorWithOneBefore, Cond.instanceMethod yX0_xorWithOneBefore, Cond.selects RX0 yX0_xorWithOneBefore yX0_xorWithOneBefore]
def wsL_law0_r12 : List Cond := [Cond.code yX0_xorWithOneBefore cX0_xorWithOneBefore 2 none, Cond.methodLink RX0 108 yX0_chainTape, Cond.instanceMethod yX0_chainTape, Cond.selects RX0 yX0_chainTape yX0_chainTape, Cond.code yX0_chainTape cX0_chainTape 2 none, Cond.methodLink RX0 111 yX0_changeEachBlock, Cond.instanceMethod yX0_changeEachBlock, Cond.selects RX0 yX0_changeEachBlock yX0_changeEachBlock, Cond.code yX0_changeEachBlock cX0_changeEachBlock 3 none, Cond.methodLink RL 99 yX1_run, Cond.instanceMethod yX1_run, Cond.selects RX1 yX1_run yX1_run, Cond.code yX1_run cX1_run 4 (some .int), Cond.methodLink RX1 97 yX1_alone, Cond.instanceMethod yX1_alone, Cond.selects RX1 yX1_alone yX1_alone, Cond.code yX1_alone cX1_alone 4 none, Cond.methodLink RX1 88 yX1_load, Cond.instanceMethod yX1_load, Cond.selects RX1 yX1_load yX1_load, Cond.code yX1_load cX1_load 3 none, Cond.methodLink RX1 91 yX1_undo, Cond.instanceMethod yX1_undo, Cond.selects RX1 yX1_undo yX1_undo]
def wsL_law0_r13 : List Cond := [Cond.code yX1_undo cX1_undo 2 none, Cond.methodLink RX1 78 yX1_xor, Cond.instanceMethod yX1_xor, Cond.selects RX1 yX1_xor yX1_xor, Cond.code yX1_xor cX1_xor 3 none, Cond.methodLink RX1 85 yX1_unmix, Cond.instanceMethod yX1_unmix, Cond.selects RX1 yX1_unmix yX1_unmix, Cond.code yX1_unmix cX1_unmix 1 none, Cond.methodLink RX1 75 yX1_right, Cond.static yX1_right, Cond.code yX1_right cX1_right 2 (some .int), Cond.methodLink RX1 94 yX1_forth, Cond.instanceMethod yX1_forth, Cond.selects RX1 yX1_forth yX1_forth, Cond.code yX1_forth cX1_forth 2 none, Cond.methodLink RX1 82 yX1_mix, Cond.instanceMethod yX1_mix, Cond.selects RX1 yX1_mix yX1_mix, Cond.code yX1_mix cX1_mix 1 none, Cond.methodLink RX1 100 yX1_chained, Cond.instanceMethod yX1_chained, Cond.selects RX1 yX1_chained yX1_chained, Cond.code yX1_chained cX1_chained 8 none]
def wsL_law0_r14 : List Cond := [Cond.methodLink RX1 103 yX1_counted, Cond.instanceMethod yX1_counted, Cond.selects RX1 yX1_counted yX1_counted, Cond.code yX1_counted cX1_counted 4 none, Cond.methodLink RL 100 yL_seal, Cond.static yL_seal, Cond.codeWith yL_seal cL_seal 4 (some .int) [(0, 9, 12, 13), (0, 9, 15, 25)], Cond.methodLink RL 49 yX0_seal, Cond.instanceMethod yX0_seal, Cond.selects RX0 yX0_seal yX0_seal, Cond.code yX0_seal cX0_seal 3 (some .int), Cond.methodLink RL 102 yX1_seal, Cond.instanceMethod yX1_seal, Cond.selects RX1 yX1_seal yX1_seal, Cond.code yX1_seal cX1_seal 4 (some .int)]
def wsL_law0 : List Cond := (wsL_law0_r1 ++ (wsL_law0_r2 ++ (wsL_law0_r3 ++ (wsL_law0_r4 ++ (wsL_law0_r5 ++ (wsL_law0_r6 ++ (wsL_law0_r7 ++ (wsL_law0_r8 ++ (wsL_law0_r9 ++ (wsL_law0_r10 ++ (wsL_law0_r11 ++ (wsL_law0_r12 ++ (wsL_law0_r13 ++ wsL_law0_r14))))))))))))) ++ wsX00 ++ wsX10 ++ ([] : List Cond)
def wsL_law : List Cond := wsL_law0 ++ (vx_atS RX0 43 "java/lang/IndexOutOfBoundsException" ["java/lang/RuntimeException", "java/lang/Exception"]).filter goodWord ++ (vx_atS RX0 50 "java/lang/IllegalArgumentException" ["java/lang/RuntimeException", "java/lang/Exception"]).filter goodWord ++ (vx_atS RX0 92 "java/lang/IllegalStateException" ["java/lang/RuntimeException", "java/lang/Exception"]).filter goodWord
abbrev vwCl : List vw_C := [(RX0, TX0, 9), (RX1, TX1, 13)]
end
section
set_option maxRecDepth 20000 in
theorem ggX0_ready_X0_paddedKeyWord : GoodIn wsX0_ready wsX0_paddedKeyWord := goodIn_r _ [7, 8, 9, 10, 6, 11, 12, 13, 40, 41, 42, 43, 44, 45, 46, 47, 48] (by decide +kernel) (by decide +kernel)
set_option maxRecDepth 20000 in
theorem gX0_ready_X0_paddedKeyWord : GoodIn wsX0_ready (wsV RX0 51 RX0 yX0_paddedKeyWord wsX0_paddedKeyWord) := goodIn_app (goodIn_of _ (by decide +kernel)) ggX0_ready_X0_paddedKeyWord
set_option maxRecDepth 20000 in
theorem ggX0_ready_X0_spreadKey : GoodIn wsX0_ready wsX0_spreadKey := goodIn_r _ [17, 1, 18, 19, 20, 21, 22, 40, 41, 42, 43, 44, 45, 46, 47, 48] (by decide +kernel) (by decide +kernel)
set_option maxRecDepth 20000 in
theorem gX0_ready_X0_spreadKey : GoodIn wsX0_ready (wsV RX0 55 RX0 yX0_spreadKey wsX0_spreadKey) := goodIn_app (goodIn_of _ (by decide +kernel)) ggX0_ready_X0_spreadKey
set_option maxRecDepth 20000 in
theorem ggX0_ready_X0_roundKeyAt : GoodIn wsX0_ready wsX0_roundKeyAt := goodIn_r _ [25] (by decide +kernel) (by decide +kernel)
set_option maxRecDepth 20000 in
theorem gX0_ready_X0_roundKeyAt : GoodIn wsX0_ready (va_wsS RX0 58 yX0_roundKeyAt wsX0_roundKeyAt) := goodIn_app (goodIn_of _ (by decide +kernel)) ggX0_ready_X0_roundKeyAt
set_option maxRecDepth 20000 in
theorem ggX0_ready_J9_floorMod_7cf53 : GoodIn wsX0_ready wsJ9_floorMod_7cf53 := goodIn_r _ [29] (by decide +kernel) (by decide +kernel)
set_option maxRecDepth 20000 in
theorem gX0_ready_J9_floorMod_7cf53 : GoodIn wsX0_ready (va_wsS RX0 61 yJ9_floorMod_7cf53 wsJ9_floorMod_7cf53) := goodIn_app (goodIn_of _ (by decide +kernel)) ggX0_ready_J9_floorMod_7cf53
set_option maxRecDepth 20000 in
theorem ggX0_ready_X0_passBox : GoodIn wsX0_ready wsX0_passBox := goodIn_r _ [32, 33, 34, 35, 6, 36, 37, 38, 39] (by decide +kernel) (by decide +kernel)
set_option maxRecDepth 20000 in
theorem gX0_ready_X0_passBox : GoodIn wsX0_ready (va_wsS RX0 67 yX0_passBox wsX0_passBox) := goodIn_app (goodIn_of _ (by decide +kernel)) ggX0_ready_X0_passBox
set_option maxRecDepth 20000 in
theorem ggX0_round_X0_needReadyKey : GoodIn wsX0_round wsX0_needReadyKey := goodIn_ca (goodIn_r _ [8, 9, 10, 11, 15, 16, 17, 18, 19, 20, 21, 22, 23] (by decide +kernel) (by decide +kernel)) (goodIn_sub (fun _ h => List.mem_cons_of_mem _ (List.mem_append_right _ h)) (by decide +kernel))
set_option maxRecDepth 20000 in
theorem gX0_round_X0_needReadyKey : GoodIn wsX0_round (wsV RX0 73 RX0 yX0_needReadyKey wsX0_needReadyKey) := goodIn_app (goodIn_of _ (by decide +kernel)) ggX0_round_X0_needReadyKey
set_option maxRecDepth 20000 in
theorem ggX0_round_X0_roundKeyAt : GoodIn wsX0_round wsX0_roundKeyAt := goodIn_r _ [14] (by decide +kernel) (by decide +kernel)
set_option maxRecDepth 20000 in
theorem gX0_round_X0_roundKeyAt : GoodIn wsX0_round (va_wsS RX0 58 yX0_roundKeyAt wsX0_roundKeyAt) := goodIn_app (goodIn_of _ (by decide +kernel)) ggX0_round_X0_roundKeyAt
set_option maxRecDepth 20000 in
theorem ggX0_box_X0_sourceInBox : GoodIn wsX0_box wsX0_sourceInBox := goodIn_r _ [9, 5] (by decide +kernel) (by decide +kernel)
set_option maxRecDepth 20000 in
theorem gX0_box_X0_sourceInBox : GoodIn wsX0_box (va_wsS RX0 80 yX0_sourceInBox wsX0_sourceInBox) := goodIn_app (goodIn_of _ (by decide +kernel)) ggX0_box_X0_sourceInBox
set_option maxRecDepth 20000 in
theorem ggX0_run_X0_needReadyKey : GoodIn wsX0_run wsX0_needReadyKey := goodIn_ca (goodIn_r _ [8, 9, 10, 11, 86, 87, 88, 89, 90, 91, 92, 93, 94] (by decide +kernel) (by decide +kernel)) (goodIn_sub (fun _ h => List.mem_cons_of_mem _ (List.mem_append_right _ h)) (by decide +kernel))
set_option maxRecDepth 20000 in
theorem gX0_run_X0_needReadyKey : GoodIn wsX0_run (wsV RX0 73 RX0 yX0_needReadyKey wsX0_needReadyKey) := goodIn_app (goodIn_of _ (by decide +kernel)) ggX0_run_X0_needReadyKey
set_option maxRecDepth 20000 in
theorem ggX0_run_X0_needWholeBlocks : GoodIn wsX0_run wsX0_needWholeBlocks := goodIn_ca (goodIn_r _ [15, 9, 10, 3, 86, 87, 88, 89, 90, 91, 92, 93, 94] (by decide +kernel) (by decide +kernel)) (goodIn_sub (fun _ h => List.mem_cons_of_mem _ (List.mem_append_right _ h)) (by decide +kernel))
set_option maxRecDepth 20000 in
theorem gX0_run_X0_needWholeBlocks : GoodIn wsX0_run (wsV RX0 99 RX0 yX0_needWholeBlocks wsX0_needWholeBlocks) := goodIn_app (goodIn_of _ (by decide +kernel)) ggX0_run_X0_needWholeBlocks
set_option maxRecDepth 20000 in
theorem ggX0_run_X0_maskByCounter : GoodIn wsX0_run wsX0_maskByCounter := goodIn_r _ [19, 20, 21, 22, 23, 24, 25, 3, 26, 27, 28, 29, 30, 7, 31, 32, 33, 34, 35, 36, 37, 38, 39, 40, 41, 42, 43, 44, 45, 46, 47, 48, 49, 50, 51, 52, 53, 54, 55, 56, 57, 58, 59, 86, 87, 88, 89, 90, 91, 92, 93, 94] (by decide +kernel) (by decide +kernel)
set_option maxRecDepth 20000 in
theorem gX0_run_X0_maskByCounter : GoodIn wsX0_run (wsV RX0 102 RX0 yX0_maskByCounter wsX0_maskByCounter) := goodIn_app (goodIn_of _ (by decide +kernel)) ggX0_run_X0_maskByCounter
set_option maxRecDepth 20000 in
theorem ggX0_run_X0_unchainTape : GoodIn wsX0_run wsX0_unchainTape := goodIn_r _ [63, 3, 27, 64, 65, 66, 7, 67, 32, 33, 34, 35, 36, 37, 38, 68, 69, 70, 71, 72, 54, 73, 39, 40, 41, 42, 43, 44, 45, 46, 47, 48, 74, 75, 76, 77, 20, 86, 87, 88, 89, 90, 91, 92, 93, 94] (by decide +kernel) (by decide +kernel)
set_option maxRecDepth 20000 in
theorem gX0_run_X0_unchainTape : GoodIn wsX0_run (wsV RX0 105 RX0 yX0_unchainTape wsX0_unchainTape) := goodIn_app (goodIn_of _ (by decide +kernel)) ggX0_run_X0_unchainTape
set_option maxRecDepth 20000 in
theorem ggX0_run_X0_chainTape : GoodIn wsX0_run wsX0_chainTape := goodIn_r _ [81, 3, 27, 74, 75, 76, 7, 77, 20, 36, 37, 38, 28, 29, 30, 31, 32, 33, 34, 35, 39, 40, 41, 42, 43, 44, 45, 46, 47, 48, 49, 50, 51, 52, 53, 54, 55, 86, 87, 88, 89, 90, 91, 92, 93, 94] (by decide +kernel) (by decide +kernel)
set_option maxRecDepth 20000 in
theorem gX0_run_X0_chainTape : GoodIn wsX0_run (wsV RX0 108 RX0 yX0_chainTape wsX0_chainTape) := goodIn_app (goodIn_of _ (by decide +kernel)) ggX0_run_X0_chainTape
set_option maxRecDepth 20000 in
theorem ggX0_run_X0_changeEachBlock : GoodIn wsX0_run wsX0_changeEachBlock := goodIn_r _ [85, 3, 27, 64, 65, 66, 7, 67, 32, 33, 34, 35, 36, 37, 38, 68, 69, 70, 71, 72, 54, 73, 39, 40, 41, 42, 43, 44, 45, 46, 47, 48, 28, 29, 30, 31, 49, 50, 51, 52, 53, 55, 86, 87, 88, 89, 90, 91, 92, 93, 94] (by decide +kernel) (by decide +kernel)
set_option maxRecDepth 20000 in
theorem gX0_run_X0_changeEachBlock : GoodIn wsX0_run (wsV RX0 111 RX0 yX0_changeEachBlock wsX0_changeEachBlock) := goodIn_app (goodIn_of _ (by decide +kernel)) ggX0_run_X0_changeEachBlock
set_option maxRecDepth 20000 in
theorem ggX0_seal_X0_needReadyKey : GoodIn wsX0_seal wsX0_needReadyKey := goodIn_ca (goodIn_r _ [10, 11, 12, 13, 46, 47, 48, 49, 50, 51, 52, 53, 54] (by decide +kernel) (by decide +kernel)) (goodIn_sub (fun _ h => List.mem_cons_of_mem _ (List.mem_append_right _ h)) (by decide +kernel))
set_option maxRecDepth 20000 in
theorem gX0_seal_X0_needReadyKey : GoodIn wsX0_seal (wsV RX0 73 RX0 yX0_needReadyKey wsX0_needReadyKey) := goodIn_app (goodIn_of _ (by decide +kernel)) ggX0_seal_X0_needReadyKey
set_option maxRecDepth 20000 in
theorem ggX0_seal_X0_needWholeBlocks : GoodIn wsX0_seal wsX0_needWholeBlocks := goodIn_ca (goodIn_r _ [17, 11, 12, 4, 46, 47, 48, 49, 50, 51, 52, 53, 54] (by decide +kernel) (by decide +kernel)) (goodIn_sub (fun _ h => List.mem_cons_of_mem _ (List.mem_append_right _ h)) (by decide +kernel))
set_option maxRecDepth 20000 in
theorem gX0_seal_X0_needWholeBlocks : GoodIn wsX0_seal (wsV RX0 99 RX0 yX0_needWholeBlocks wsX0_needWholeBlocks) := goodIn_app (goodIn_of _ (by decide +kernel)) ggX0_seal_X0_needWholeBlocks
set_option maxRecDepth 20000 in
theorem ggX0_seal_X0_xorBlock : GoodIn wsX0_seal wsX0_xorBlock := goodIn_r _ [20] (by decide +kernel) (by decide +kernel)
set_option maxRecDepth 20000 in
theorem gX0_seal_X0_xorBlock : GoodIn wsX0_seal (va_wsS RX0 117 yX0_xorBlock wsX0_xorBlock) := goodIn_app (goodIn_of _ (by decide +kernel)) ggX0_seal_X0_xorBlock
set_option maxRecDepth 20000 in
theorem ggX0_seal_X0_encipher : GoodIn wsX0_seal wsX0_encipher := goodIn_r _ [24, 25, 26, 27, 9, 28, 18, 19, 20, 29, 30, 31, 32, 33, 34, 35, 36, 37, 38, 39, 40, 41, 42, 43, 44, 45, 46, 47, 48, 49, 50, 51, 52, 53, 54] (by decide +kernel) (by decide +kernel)
set_option maxRecDepth 20000 in
theorem gX0_seal_X0_encipher : GoodIn wsX0_seal (wsV RX0 121 RX0 yX0_encipher wsX0_encipher) := goodIn_app (goodIn_of _ (by decide +kernel)) ggX0_seal_X0_encipher
set_option maxRecDepth 20000 in
theorem ggX0_paddedKeyWord_X0_paddedKeyByte : GoodIn wsX0_paddedKeyWord wsX0_paddedKeyByte := goodIn_r _ [5, 6, 7, 8, 9, 10, 11, 12, 13, 14, 15, 16] (by decide +kernel) (by decide +kernel)
set_option maxRecDepth 20000 in
theorem gX0_paddedKeyWord_X0_paddedKeyByte : GoodIn wsX0_paddedKeyWord (wsV RX0 129 RX0 yX0_paddedKeyByte wsX0_paddedKeyByte) := goodIn_app (goodIn_of _ (by decide +kernel)) ggX0_paddedKeyWord_X0_paddedKeyByte
set_option maxRecDepth 20000 in
theorem ggX0_spreadKey_J6_rotateLeft_7cf53 : GoodIn wsX0_spreadKey wsJ6_rotateLeft_7cf53 := goodIn_r _ [6] (by decide +kernel) (by decide +kernel)
set_option maxRecDepth 20000 in
theorem gX0_spreadKey_J6_rotateLeft_7cf53 : GoodIn wsX0_spreadKey (va_wsS RX0 133 yJ6_rotateLeft_7cf53 wsJ6_rotateLeft_7cf53) := goodIn_app (goodIn_of _ (by decide +kernel)) ggX0_spreadKey_J6_rotateLeft_7cf53
set_option maxRecDepth 20000 in
theorem ggX0_changeEachBlock_X0_decipher : GoodIn wsX0_changeEachBlock wsX0_decipher := goodIn_r _ [7, 8, 9, 10, 6, 11, 12, 13, 14, 15, 16, 17, 18, 19, 20, 21, 22, 23, 24, 25, 26, 27, 28, 29, 30, 31, 42, 43, 44, 45, 46, 47, 48, 49, 50] (by decide +kernel) (by decide +kernel)
set_option maxRecDepth 20000 in
theorem gX0_changeEachBlock_X0_decipher : GoodIn wsX0_changeEachBlock (wsV RX0 138 RX0 yX0_decipher wsX0_decipher) := goodIn_app (goodIn_of _ (by decide +kernel)) ggX0_changeEachBlock_X0_decipher
set_option maxRecDepth 20000 in
theorem ggX0_changeEachBlock_X0_encipher : GoodIn wsX0_changeEachBlock wsX0_encipher := goodIn_r _ [35, 8, 9, 10, 6, 11, 12, 13, 14, 22, 23, 24, 25, 26, 27, 28, 29, 30, 31, 36, 37, 38, 39, 40, 20, 41, 42, 43, 44, 45, 46, 47, 48, 49, 50] (by decide +kernel) (by decide +kernel)
set_option maxRecDepth 20000 in
theorem gX0_changeEachBlock_X0_encipher : GoodIn wsX0_changeEachBlock (wsV RX0 121 RX0 yX0_encipher wsX0_encipher) := goodIn_app (goodIn_of _ (by decide +kernel)) ggX0_changeEachBlock_X0_encipher
set_option maxRecDepth 20000 in
theorem ggX0_chainTape_X0_xorWithOneBefore : GoodIn wsX0_chainTape wsX0_xorWithOneBefore := goodIn_r _ [7, 2, 8, 9, 10, 6, 11, 37, 38, 39, 40, 41, 42, 43, 44, 45] (by decide +kernel) (by decide +kernel)
set_option maxRecDepth 20000 in
theorem gX0_chainTape_X0_xorWithOneBefore : GoodIn wsX0_chainTape (wsV RX0 141 RX0 yX0_xorWithOneBefore wsX0_xorWithOneBefore) := goodIn_app (goodIn_of _ (by decide +kernel)) ggX0_chainTape_X0_xorWithOneBefore
set_option maxRecDepth 20000 in
theorem ggX0_chainTape_X0_encipher : GoodIn wsX0_chainTape wsX0_encipher := goodIn_r _ [15, 16, 17, 18, 6, 19, 9, 10, 11, 20, 21, 22, 23, 24, 25, 26, 27, 28, 29, 30, 31, 32, 33, 34, 35, 36, 37, 38, 39, 40, 41, 42, 43, 44, 45] (by decide +kernel) (by decide +kernel)
set_option maxRecDepth 20000 in
theorem gX0_chainTape_X0_encipher : GoodIn wsX0_chainTape (wsV RX0 121 RX0 yX0_encipher wsX0_encipher) := goodIn_app (goodIn_of _ (by decide +kernel)) ggX0_chainTape_X0_encipher
set_option maxRecDepth 20000 in
theorem ggX0_unchainTape_X0_decipher : GoodIn wsX0_unchainTape wsX0_decipher := goodIn_r _ [7, 8, 9, 10, 6, 11, 12, 13, 14, 15, 16, 17, 18, 19, 20, 21, 22, 23, 24, 25, 26, 27, 28, 29, 30, 31, 37, 38, 39, 40, 41, 42, 43, 44, 45] (by decide +kernel) (by decide +kernel)
set_option maxRecDepth 20000 in
theorem gX0_unchainTape_X0_decipher : GoodIn wsX0_unchainTape (wsV RX0 138 RX0 yX0_decipher wsX0_decipher) := goodIn_app (goodIn_of _ (by decide +kernel)) ggX0_unchainTape_X0_decipher
set_option maxRecDepth 20000 in
theorem ggX0_unchainTape_X0_xorWithOneBefore : GoodIn wsX0_unchainTape wsX0_xorWithOneBefore := goodIn_r _ [35, 2, 36, 12, 13, 6, 14, 37, 38, 39, 40, 41, 42, 43, 44, 45] (by decide +kernel) (by decide +kernel)
set_option maxRecDepth 20000 in
theorem gX0_unchainTape_X0_xorWithOneBefore : GoodIn wsX0_unchainTape (wsV RX0 141 RX0 yX0_xorWithOneBefore wsX0_xorWithOneBefore) := goodIn_app (goodIn_of _ (by decide +kernel)) ggX0_unchainTape_X0_xorWithOneBefore
set_option maxRecDepth 20000 in
theorem ggX0_xorWithOneBefore_X0_xorBlock : GoodIn wsX0_xorWithOneBefore wsX0_xorBlock := goodIn_r _ [6] (by decide +kernel) (by decide +kernel)
set_option maxRecDepth 20000 in
theorem gX0_xorWithOneBefore_X0_xorBlock : GoodIn wsX0_xorWithOneBefore (va_wsS RX0 117 yX0_xorBlock wsX0_xorBlock) := goodIn_app (goodIn_of _ (by decide +kernel)) ggX0_xorWithOneBefore_X0_xorBlock
set_option maxRecDepth 20000 in
theorem ggX0_maskByCounter_X0_encipher : GoodIn wsX0_maskByCounter wsX0_encipher := goodIn_r _ [14, 15, 16, 17, 13, 18, 19, 20, 21, 22, 23, 24, 25, 26, 27, 28, 29, 30, 31, 32, 33, 34, 35, 36, 37, 38, 43, 44, 45, 46, 47, 48, 49, 50, 51] (by decide +kernel) (by decide +kernel)
set_option maxRecDepth 20000 in
theorem gX0_maskByCounter_X0_encipher : GoodIn wsX0_maskByCounter (wsV RX0 121 RX0 yX0_encipher wsX0_encipher) := goodIn_app (goodIn_of _ (by decide +kernel)) ggX0_maskByCounter_X0_encipher
set_option maxRecDepth 20000 in
theorem ggX0_maskByCounter_X0_xorBlock : GoodIn wsX0_maskByCounter wsX0_xorBlock := goodIn_r _ [21] (by decide +kernel) (by decide +kernel)
set_option maxRecDepth 20000 in
theorem gX0_maskByCounter_X0_xorBlock : GoodIn wsX0_maskByCounter (va_wsS RX0 117 yX0_xorBlock wsX0_xorBlock) := goodIn_app (goodIn_of _ (by decide +kernel)) ggX0_maskByCounter_X0_xorBlock
set_option maxRecDepth 20000 in
theorem ggX0_maskByCounter_X0_countOneMore : GoodIn wsX0_maskByCounter wsX0_countOneMore := goodIn_r _ [42, 2, 43, 44, 45, 46, 47, 48, 49, 50, 51] (by decide +kernel) (by decide +kernel)
set_option maxRecDepth 20000 in
theorem gX0_maskByCounter_X0_countOneMore : GoodIn wsX0_maskByCounter (wsV RX0 151 RX0 yX0_countOneMore wsX0_countOneMore) := goodIn_app (goodIn_of _ (by decide +kernel)) ggX0_maskByCounter_X0_countOneMore
set_option maxRecDepth 20000 in
theorem ggX0_encipher_X0_roundKeyAt : GoodIn wsX0_encipher wsX0_roundKeyAt := goodIn_r _ [5] (by decide +kernel) (by decide +kernel)
set_option maxRecDepth 20000 in
theorem gX0_encipher_X0_roundKeyAt : GoodIn wsX0_encipher (va_wsS RX0 58 yX0_roundKeyAt wsX0_roundKeyAt) := goodIn_app (goodIn_of _ (by decide +kernel)) ggX0_encipher_X0_roundKeyAt
set_option maxRecDepth 20000 in
theorem ggX0_encipher_X0_xorBlock : GoodIn wsX0_encipher wsX0_xorBlock := goodIn_r _ [8] (by decide +kernel) (by decide +kernel)
set_option maxRecDepth 20000 in
theorem gX0_encipher_X0_xorBlock : GoodIn wsX0_encipher (va_wsS RX0 117 yX0_xorBlock wsX0_xorBlock) := goodIn_app (goodIn_of _ (by decide +kernel)) ggX0_encipher_X0_xorBlock
set_option maxRecDepth 20000 in
theorem ggX0_encipher_X0_passBox : GoodIn wsX0_encipher wsX0_passBox := goodIn_r _ [11, 12, 13, 14, 4, 15, 16, 17, 18] (by decide +kernel) (by decide +kernel)
set_option maxRecDepth 20000 in
theorem gX0_encipher_X0_passBox : GoodIn wsX0_encipher (va_wsS RX0 67 yX0_passBox wsX0_passBox) := goodIn_app (goodIn_of _ (by decide +kernel)) ggX0_encipher_X0_passBox
set_option maxRecDepth 20000 in
theorem ggX0_encipher_X0_mix : GoodIn wsX0_encipher wsX0_mix := goodIn_r _ [21, 22, 23, 24, 25] (by decide +kernel) (by decide +kernel)
set_option maxRecDepth 20000 in
theorem gX0_encipher_X0_mix : GoodIn wsX0_encipher (va_wsS RX0 154 yX0_mix wsX0_mix) := goodIn_app (goodIn_of _ (by decide +kernel)) ggX0_encipher_X0_mix
set_option maxRecDepth 20000 in
theorem ggX0_decipher_X0_roundKeyAt : GoodIn wsX0_decipher wsX0_roundKeyAt := goodIn_r _ [5] (by decide +kernel) (by decide +kernel)
set_option maxRecDepth 20000 in
theorem gX0_decipher_X0_roundKeyAt : GoodIn wsX0_decipher (va_wsS RX0 58 yX0_roundKeyAt wsX0_roundKeyAt) := goodIn_app (goodIn_of _ (by decide +kernel)) ggX0_decipher_X0_roundKeyAt
set_option maxRecDepth 20000 in
theorem ggX0_decipher_X0_xorBlock : GoodIn wsX0_decipher wsX0_xorBlock := goodIn_r _ [8] (by decide +kernel) (by decide +kernel)
set_option maxRecDepth 20000 in
theorem gX0_decipher_X0_xorBlock : GoodIn wsX0_decipher (va_wsS RX0 117 yX0_xorBlock wsX0_xorBlock) := goodIn_app (goodIn_of _ (by decide +kernel)) ggX0_decipher_X0_xorBlock
set_option maxRecDepth 20000 in
theorem ggX0_decipher_X0_unmix : GoodIn wsX0_decipher wsX0_unmix := goodIn_r _ [11, 12, 13, 14, 15] (by decide +kernel) (by decide +kernel)
set_option maxRecDepth 20000 in
theorem gX0_decipher_X0_unmix : GoodIn wsX0_decipher (va_wsS RX0 157 yX0_unmix wsX0_unmix) := goodIn_app (goodIn_of _ (by decide +kernel)) ggX0_decipher_X0_unmix
set_option maxRecDepth 20000 in
theorem ggX0_decipher_X0_passBox : GoodIn wsX0_decipher wsX0_passBox := goodIn_r _ [18, 19, 20, 21, 4, 22, 23, 24, 25] (by decide +kernel) (by decide +kernel)
set_option maxRecDepth 20000 in
theorem gX0_decipher_X0_passBox : GoodIn wsX0_decipher (va_wsS RX0 67 yX0_passBox wsX0_passBox) := goodIn_app (goodIn_of _ (by decide +kernel)) ggX0_decipher_X0_passBox
set_option maxRecDepth 20000 in
theorem ggX0_passBox_X0_placesWith : GoodIn wsX0_passBox wsX0_placesWith := goodIn_r _ [5, 6, 7, 4, 8] (by decide +kernel) (by decide +kernel)
set_option maxRecDepth 20000 in
theorem gX0_passBox_X0_placesWith : GoodIn wsX0_passBox (va_wsS RX0 160 yX0_placesWith wsX0_placesWith) := goodIn_app (goodIn_of _ (by decide +kernel)) ggX0_passBox_X0_placesWith
set_option maxRecDepth 20000 in
theorem ggX0_passBox_X0_lowestBitEverywhere : GoodIn wsX0_passBox wsX0_lowestBitEverywhere := goodIn_r _ [8] (by decide +kernel) (by decide +kernel)
set_option maxRecDepth 20000 in
theorem gX0_passBox_X0_lowestBitEverywhere : GoodIn wsX0_passBox (va_wsS RX0 163 yX0_lowestBitEverywhere wsX0_lowestBitEverywhere) := goodIn_app (goodIn_of _ (by decide +kernel)) ggX0_passBox_X0_lowestBitEverywhere
set_option maxRecDepth 20000 in
theorem ggX0_placesWith_X0_lowestBitEverywhere : GoodIn wsX0_placesWith wsX0_lowestBitEverywhere := goodIn_r _ [4] (by decide +kernel) (by decide +kernel)
set_option maxRecDepth 20000 in
theorem gX0_placesWith_X0_lowestBitEverywhere : GoodIn wsX0_placesWith (va_wsS RX0 163 yX0_lowestBitEverywhere wsX0_lowestBitEverywhere) := goodIn_app (goodIn_of _ (by decide +kernel)) ggX0_placesWith_X0_lowestBitEverywhere
set_option maxRecDepth 20000 in
theorem ggX0_mix_J6_rotateLeft_7cf53 : GoodIn wsX0_mix wsJ6_rotateLeft_7cf53 := goodIn_r _ [4] (by decide +kernel) (by decide +kernel)
set_option maxRecDepth 20000 in
theorem gX0_mix_J6_rotateLeft_7cf53 : GoodIn wsX0_mix (va_wsS RX0 133 yJ6_rotateLeft_7cf53 wsJ6_rotateLeft_7cf53) := goodIn_app (goodIn_of _ (by decide +kernel)) ggX0_mix_J6_rotateLeft_7cf53
set_option maxRecDepth 20000 in
theorem ggX0_unmix_J6_rotateRight_7cf53 : GoodIn wsX0_unmix wsJ6_rotateRight_7cf53 := goodIn_r _ [4] (by decide +kernel) (by decide +kernel)
set_option maxRecDepth 20000 in
theorem gX0_unmix_J6_rotateRight_7cf53 : GoodIn wsX0_unmix (va_wsS RX0 166 yJ6_rotateRight_7cf53 wsJ6_rotateRight_7cf53) := goodIn_app (goodIn_of _ (by decide +kernel)) ggX0_unmix_J6_rotateRight_7cf53
end
section
set_option maxRecDepth 20000 in
theorem ggX1_through_X1_back : GoodIn wsX1_through wsX1_back := goodIn_r _ [8, 3, 9, 10, 11, 12, 13, 14, 15, 16, 17, 18, 19, 20, 21] (by decide +kernel) (by decide +kernel)
set_option maxRecDepth 20000 in
theorem gX1_through_X1_back : GoodIn wsX1_through (wsV RX1 44 RX1 yX1_back wsX1_back) := goodIn_app (goodIn_of _ (by decide +kernel)) ggX1_through_X1_back
set_option maxRecDepth 20000 in
theorem ggX1_right_X1_left : GoodIn wsX1_right wsX1_left := goodIn_r _ [4] (by decide +kernel) (by decide +kernel)
set_option maxRecDepth 20000 in
theorem gX1_right_X1_left : GoodIn wsX1_right (va_wsS RX1 48 yX1_left wsX1_left) := goodIn_app (goodIn_of _ (by decide +kernel)) ggX1_right_X1_left
set_option maxRecDepth 20000 in
theorem ggX1_key_X1_isIn : GoodIn wsX1_key wsX1_isIn := goodIn_r _ [6] (by decide +kernel) (by decide +kernel)
set_option maxRecDepth 20000 in
theorem gX1_key_X1_isIn : GoodIn wsX1_key (va_wsS RX1 51 yX1_isIn wsX1_isIn) := goodIn_app (goodIn_of _ (by decide +kernel)) ggX1_key_X1_isIn
set_option maxRecDepth 20000 in
theorem ggX1_key_X1_good : GoodIn wsX1_key wsX1_good := goodIn_r _ [10, 11, 12, 13, 14, 15, 16, 17, 18, 19, 20, 21, 22, 23, 24] (by decide +kernel) (by decide +kernel)
set_option maxRecDepth 20000 in
theorem gX1_key_X1_good : GoodIn wsX1_key (wsV RX1 55 RX1 yX1_good wsX1_good) := goodIn_app (goodIn_of _ (by decide +kernel)) ggX1_key_X1_good
set_option maxRecDepth 20000 in
theorem ggX1_size_X1_isIn : GoodIn wsX1_size wsX1_isIn := goodIn_r _ [6] (by decide +kernel) (by decide +kernel)
set_option maxRecDepth 20000 in
theorem gX1_size_X1_isIn : GoodIn wsX1_size (va_wsS RX1 51 yX1_isIn wsX1_isIn) := goodIn_app (goodIn_of _ (by decide +kernel)) ggX1_size_X1_isIn
set_option maxRecDepth 20000 in
theorem ggX1_size_X1_good : GoodIn wsX1_size wsX1_good := goodIn_r _ [10, 11, 12, 13, 14, 15, 16, 17, 18, 19, 20, 21, 22, 23, 24] (by decide +kernel) (by decide +kernel)
set_option maxRecDepth 20000 in
theorem gX1_size_X1_good : GoodIn wsX1_size (wsV RX1 55 RX1 yX1_good wsX1_good) := goodIn_app (goodIn_of _ (by decide +kernel)) ggX1_size_X1_good
set_option maxRecDepth 20000 in
theorem ggX1_ready_X1_keyByte : GoodIn wsX1_ready wsX1_keyByte := goodIn_r _ [11, 12, 13, 27, 28, 29, 30, 31, 32, 33, 34, 35, 36, 37, 38, 39] (by decide +kernel) (by decide +kernel)
set_option maxRecDepth 20000 in
theorem gX1_ready_X1_keyByte : GoodIn wsX1_ready (wsV RX1 66 RX1 yX1_keyByte wsX1_keyByte) := goodIn_app (goodIn_of _ (by decide +kernel)) ggX1_ready_X1_keyByte
set_option maxRecDepth 20000 in
theorem ggX1_ready_X1_left : GoodIn wsX1_ready wsX1_left := goodIn_r _ [16] (by decide +kernel) (by decide +kernel)
set_option maxRecDepth 20000 in
theorem gX1_ready_X1_left : GoodIn wsX1_ready (va_wsS RX1 48 yX1_left wsX1_left) := goodIn_app (goodIn_of _ (by decide +kernel)) ggX1_ready_X1_left
set_option maxRecDepth 20000 in
theorem ggX1_ready_X1_through : GoodIn wsX1_ready wsX1_through := goodIn_r _ [20, 21, 4, 22, 23, 24, 25, 10, 26, 27, 28, 29, 30, 31, 32, 33, 34, 35, 36, 37, 38, 39] (by decide +kernel) (by decide +kernel)
set_option maxRecDepth 20000 in
theorem gX1_ready_X1_through : GoodIn wsX1_ready (wsV RX1 71 RX1 yX1_through wsX1_through) := goodIn_app (goodIn_of _ (by decide +kernel)) ggX1_ready_X1_through
set_option maxRecDepth 20000 in
theorem ggX1_round_X1_isIn : GoodIn wsX1_round wsX1_isIn := goodIn_r _ [6] (by decide +kernel) (by decide +kernel)
set_option maxRecDepth 20000 in
theorem gX1_round_X1_isIn : GoodIn wsX1_round (va_wsS RX1 51 yX1_isIn wsX1_isIn) := goodIn_app (goodIn_of _ (by decide +kernel)) ggX1_round_X1_isIn
set_option maxRecDepth 20000 in
theorem ggX1_round_X1_good : GoodIn wsX1_round wsX1_good := goodIn_r _ [10, 11, 12, 13, 14, 15, 16, 17, 18, 19, 20, 21, 22, 23, 24] (by decide +kernel) (by decide +kernel)
set_option maxRecDepth 20000 in
theorem gX1_round_X1_good : GoodIn wsX1_round (wsV RX1 55 RX1 yX1_good wsX1_good) := goodIn_app (goodIn_of _ (by decide +kernel)) ggX1_round_X1_good
set_option maxRecDepth 20000 in
theorem ggX1_box_X1_isIn : GoodIn wsX1_box wsX1_isIn := goodIn_r _ [5] (by decide +kernel) (by decide +kernel)
set_option maxRecDepth 20000 in
theorem gX1_box_X1_isIn : GoodIn wsX1_box (va_wsS RX1 51 yX1_isIn wsX1_isIn) := goodIn_app (goodIn_of _ (by decide +kernel)) ggX1_box_X1_isIn
set_option maxRecDepth 20000 in
theorem ggX1_box_X1_good : GoodIn wsX1_box wsX1_good := goodIn_r _ [9, 10, 15, 16, 17, 18, 19, 20, 21, 22, 23, 24, 25, 26, 27] (by decide +kernel) (by decide +kernel)
set_option maxRecDepth 20000 in
theorem gX1_box_X1_good : GoodIn wsX1_box (wsV RX1 55 RX1 yX1_good wsX1_good) := goodIn_app (goodIn_of _ (by decide +kernel)) ggX1_box_X1_good
set_option maxRecDepth 20000 in
theorem ggX1_box_X1_back : GoodIn wsX1_box wsX1_back := goodIn_r _ [14, 1, 15, 16, 17, 18, 19, 20, 21, 22, 23, 24, 25, 26, 27] (by decide +kernel) (by decide +kernel)
set_option maxRecDepth 20000 in
theorem gX1_box_X1_back : GoodIn wsX1_box (wsV RX1 44 RX1 yX1_back wsX1_back) := goodIn_app (goodIn_of _ (by decide +kernel)) ggX1_box_X1_back
set_option maxRecDepth 20000 in
theorem ggX1_start_X1_isIn : GoodIn wsX1_start wsX1_isIn := goodIn_r _ [5] (by decide +kernel) (by decide +kernel)
set_option maxRecDepth 20000 in
theorem gX1_start_X1_isIn : GoodIn wsX1_start (va_wsS RX1 51 yX1_isIn wsX1_isIn) := goodIn_app (goodIn_of _ (by decide +kernel)) ggX1_start_X1_isIn
set_option maxRecDepth 20000 in
theorem ggX1_start_X1_good : GoodIn wsX1_start wsX1_good := goodIn_r _ [9, 10, 11, 12, 13, 14, 15, 16, 17, 18, 19, 20, 21, 22, 23] (by decide +kernel) (by decide +kernel)
set_option maxRecDepth 20000 in
theorem gX1_start_X1_good : GoodIn wsX1_start (wsV RX1 55 RX1 yX1_good wsX1_good) := goodIn_app (goodIn_of _ (by decide +kernel)) ggX1_start_X1_good
set_option maxRecDepth 20000 in
theorem ggX1_put_X1_good : GoodIn wsX1_put wsX1_good := goodIn_r _ [7, 8, 9, 10, 11, 12, 13, 14, 15, 16, 17, 18, 19, 20, 21] (by decide +kernel) (by decide +kernel)
set_option maxRecDepth 20000 in
theorem gX1_put_X1_good : GoodIn wsX1_put (wsV RX1 55 RX1 yX1_good wsX1_good) := goodIn_app (goodIn_of _ (by decide +kernel)) ggX1_put_X1_good
set_option maxRecDepth 20000 in
theorem ggX1_cut_X1_isIn : GoodIn wsX1_cut wsX1_isIn := goodIn_r _ [5] (by decide +kernel) (by decide +kernel)
set_option maxRecDepth 20000 in
theorem gX1_cut_X1_isIn : GoodIn wsX1_cut (va_wsS RX1 51 yX1_isIn wsX1_isIn) := goodIn_app (goodIn_of _ (by decide +kernel)) ggX1_cut_X1_isIn
set_option maxRecDepth 20000 in
theorem ggX1_cut_X1_good : GoodIn wsX1_cut wsX1_good := goodIn_r _ [9, 10, 11, 12, 13, 14, 15, 16, 17, 18, 19, 20, 21, 22, 23] (by decide +kernel) (by decide +kernel)
set_option maxRecDepth 20000 in
theorem gX1_cut_X1_good : GoodIn wsX1_cut (wsV RX1 55 RX1 yX1_good wsX1_good) := goodIn_app (goodIn_of _ (by decide +kernel)) ggX1_cut_X1_good
set_option maxRecDepth 20000 in
theorem ggX1_word_X1_isIn : GoodIn wsX1_word wsX1_isIn := goodIn_r _ [6] (by decide +kernel) (by decide +kernel)
set_option maxRecDepth 20000 in
theorem gX1_word_X1_isIn : GoodIn wsX1_word (va_wsS RX1 51 yX1_isIn wsX1_isIn) := goodIn_app (goodIn_of _ (by decide +kernel)) ggX1_word_X1_isIn
set_option maxRecDepth 20000 in
theorem ggX1_word_X1_good : GoodIn wsX1_word wsX1_good := goodIn_r _ [10, 11, 12, 13, 14, 15, 16, 17, 18, 19, 20, 21, 22, 23, 24] (by decide +kernel) (by decide +kernel)
set_option maxRecDepth 20000 in
theorem gX1_word_X1_good : GoodIn wsX1_word (wsV RX1 55 RX1 yX1_good wsX1_good) := goodIn_app (goodIn_of _ (by decide +kernel)) ggX1_word_X1_good
set_option maxRecDepth 20000 in
theorem ggX1_mix_X1_left : GoodIn wsX1_mix wsX1_left := goodIn_r _ [5] (by decide +kernel) (by decide +kernel)
set_option maxRecDepth 20000 in
theorem gX1_mix_X1_left : GoodIn wsX1_mix (va_wsS RX1 48 yX1_left wsX1_left) := goodIn_app (goodIn_of _ (by decide +kernel)) ggX1_mix_X1_left
set_option maxRecDepth 20000 in
theorem ggX1_unmix_X1_right : GoodIn wsX1_unmix wsX1_right := goodIn_r _ [5, 6, 7, 4, 8] (by decide +kernel) (by decide +kernel)
set_option maxRecDepth 20000 in
theorem gX1_unmix_X1_right : GoodIn wsX1_unmix (va_wsS RX1 75 yX1_right wsX1_right) := goodIn_app (goodIn_of _ (by decide +kernel)) ggX1_unmix_X1_right
set_option maxRecDepth 20000 in
theorem ggX1_forth_X1_xor : GoodIn wsX1_forth wsX1_xor := goodIn_r _ [5, 6, 7, 25, 26, 27, 28, 29, 30, 31, 32, 33, 34, 35, 36, 37] (by decide +kernel) (by decide +kernel)
set_option maxRecDepth 20000 in
theorem gX1_forth_X1_xor : GoodIn wsX1_forth (wsV RX1 78 RX1 yX1_xor wsX1_xor) := goodIn_app (goodIn_of _ (by decide +kernel)) ggX1_forth_X1_xor
set_option maxRecDepth 20000 in
theorem ggX1_forth_X1_through : GoodIn wsX1_forth wsX1_through := goodIn_r _ [11, 12, 6, 13, 14, 15, 16, 4, 17, 25, 26, 27, 28, 29, 30, 31, 32, 33, 34, 35, 36, 37] (by decide +kernel) (by decide +kernel)
set_option maxRecDepth 20000 in
theorem gX1_forth_X1_through : GoodIn wsX1_forth (wsV RX1 71 RX1 yX1_through wsX1_through) := goodIn_app (goodIn_of _ (by decide +kernel)) ggX1_forth_X1_through
set_option maxRecDepth 20000 in
theorem ggX1_forth_X1_mix : GoodIn wsX1_forth wsX1_mix := goodIn_r _ [21, 6, 22, 23, 4, 24, 25, 26, 27, 28, 29, 30, 31, 32, 33, 34, 35, 36, 37] (by decide +kernel) (by decide +kernel)
set_option maxRecDepth 20000 in
theorem gX1_forth_X1_mix : GoodIn wsX1_forth (wsV RX1 82 RX1 yX1_mix wsX1_mix) := goodIn_app (goodIn_of _ (by decide +kernel)) ggX1_forth_X1_mix
set_option maxRecDepth 20000 in
theorem ggX1_undo_X1_xor : GoodIn wsX1_undo wsX1_xor := goodIn_r _ [5, 6, 7, 28, 29, 30, 31, 32, 33, 34, 35, 36, 37, 38, 39, 40] (by decide +kernel) (by decide +kernel)
set_option maxRecDepth 20000 in
theorem gX1_undo_X1_xor : GoodIn wsX1_undo (wsV RX1 78 RX1 yX1_xor wsX1_xor) := goodIn_app (goodIn_of _ (by decide +kernel)) ggX1_undo_X1_xor
set_option maxRecDepth 20000 in
theorem ggX1_undo_X1_unmix : GoodIn wsX1_undo wsX1_unmix := goodIn_r _ [11, 6, 12, 13, 4, 14, 15, 16, 17, 28, 29, 30, 31, 32, 33, 34, 35, 36, 37, 38, 39, 40] (by decide +kernel) (by decide +kernel)
set_option maxRecDepth 20000 in
theorem gX1_undo_X1_unmix : GoodIn wsX1_undo (wsV RX1 85 RX1 yX1_unmix wsX1_unmix) := goodIn_app (goodIn_of _ (by decide +kernel)) ggX1_undo_X1_unmix
set_option maxRecDepth 20000 in
theorem ggX1_undo_X1_through : GoodIn wsX1_undo wsX1_through := goodIn_r _ [21, 22, 6, 23, 24, 25, 26, 4, 27, 28, 29, 30, 31, 32, 33, 34, 35, 36, 37, 38, 39, 40] (by decide +kernel) (by decide +kernel)
set_option maxRecDepth 20000 in
theorem gX1_undo_X1_through : GoodIn wsX1_undo (wsV RX1 71 RX1 yX1_through wsX1_through) := goodIn_app (goodIn_of _ (by decide +kernel)) ggX1_undo_X1_through
set_option maxRecDepth 20000 in
theorem ggX1_alone_X1_load : GoodIn wsX1_alone wsX1_load := goodIn_r _ [7, 2, 1, 45, 46, 47, 48, 49, 50, 51, 52, 53, 54, 55, 56, 57] (by decide +kernel) (by decide +kernel)
set_option maxRecDepth 20000 in
theorem gX1_alone_X1_load : GoodIn wsX1_alone (wsV RX1 88 RX1 yX1_load wsX1_load) := goodIn_app (goodIn_of _ (by decide +kernel)) ggX1_alone_X1_load
set_option maxRecDepth 20000 in
theorem ggX1_alone_X1_undo : GoodIn wsX1_alone wsX1_undo := goodIn_r _ [11, 12, 13, 14, 6, 15, 2, 16, 17, 18, 19, 20, 21, 22, 23, 24, 25, 26, 27, 28, 29, 30, 31, 32, 33, 34, 35, 36, 45, 46, 47, 48, 49, 50, 51, 52, 53, 54, 55, 56, 57] (by decide +kernel) (by decide +kernel)
set_option maxRecDepth 20000 in
theorem gX1_alone_X1_undo : GoodIn wsX1_alone (wsV RX1 91 RX1 yX1_undo wsX1_undo) := goodIn_app (goodIn_of _ (by decide +kernel)) ggX1_alone_X1_undo
set_option maxRecDepth 20000 in
theorem ggX1_alone_X1_forth : GoodIn wsX1_alone wsX1_forth := goodIn_r _ [40, 12, 13, 14, 6, 15, 2, 16, 27, 28, 29, 30, 31, 32, 33, 34, 35, 36, 41, 42, 43, 44, 24, 25, 26, 45, 46, 47, 48, 49, 50, 51, 52, 53, 54, 55, 56, 57] (by decide +kernel) (by decide +kernel)
set_option maxRecDepth 20000 in
theorem gX1_alone_X1_forth : GoodIn wsX1_alone (wsV RX1 94 RX1 yX1_forth wsX1_forth) := goodIn_app (goodIn_of _ (by decide +kernel)) ggX1_alone_X1_forth
set_option maxRecDepth 20000 in
theorem ggX1_chained_X1_alone : GoodIn wsX1_chained wsX1_alone := goodIn_r _ [8, 2, 9, 10, 11, 12, 7, 13, 14, 15, 16, 17, 18, 19, 20, 21, 22, 23, 24, 25, 26, 27, 28, 29, 30, 31, 32, 33, 34, 35, 36, 1, 37, 38, 39, 40, 41, 42, 43, 44, 45, 46, 47, 48, 49, 50, 51, 52, 53, 54, 55, 56, 57, 58, 59, 60, 61, 62] (by decide +kernel) (by decide +kernel)
set_option maxRecDepth 20000 in
theorem gX1_chained_X1_alone : GoodIn wsX1_chained (wsV RX1 97 RX1 yX1_alone wsX1_alone) := goodIn_app (goodIn_of _ (by decide +kernel)) ggX1_chained_X1_alone
set_option maxRecDepth 20000 in
theorem ggX1_counted_X1_forth : GoodIn wsX1_counted wsX1_forth := goodIn_r _ [8, 9, 10, 11, 7, 12, 1, 13, 14, 15, 16, 17, 18, 19, 20, 21, 22, 23, 24, 25, 26, 27, 28, 29, 30, 31, 32, 33, 34, 35, 36, 37, 38, 39, 40, 41, 42, 43] (by decide +kernel) (by decide +kernel)
set_option maxRecDepth 20000 in
theorem gX1_counted_X1_forth : GoodIn wsX1_counted (wsV RX1 94 RX1 yX1_forth wsX1_forth) := goodIn_app (goodIn_of _ (by decide +kernel)) ggX1_counted_X1_forth
set_option maxRecDepth 20000 in
theorem ggX1_run_X1_isIn : GoodIn wsX1_run wsX1_isIn := goodIn_r _ [8] (by decide +kernel) (by decide +kernel)
set_option maxRecDepth 20000 in
theorem gX1_run_X1_isIn : GoodIn wsX1_run (va_wsS RX1 51 yX1_isIn wsX1_isIn) := goodIn_app (goodIn_of _ (by decide +kernel)) ggX1_run_X1_isIn
set_option maxRecDepth 20000 in
theorem ggX1_run_X1_good : GoodIn wsX1_run wsX1_good := goodIn_r _ [12, 13, 69, 70, 71, 72, 73, 74, 75, 76, 77, 78, 79, 80, 81] (by decide +kernel) (by decide +kernel)
set_option maxRecDepth 20000 in
theorem gX1_run_X1_good : GoodIn wsX1_run (wsV RX1 55 RX1 yX1_good wsX1_good) := goodIn_app (goodIn_of _ (by decide +kernel)) ggX1_run_X1_good
set_option maxRecDepth 20000 in
theorem ggX1_run_X1_alone : GoodIn wsX1_run wsX1_alone := goodIn_r _ [17, 18, 19, 20, 21, 22, 7, 23, 24, 25, 26, 27, 28, 29, 30, 31, 32, 33, 34, 35, 36, 37, 38, 39, 40, 41, 42, 43, 44, 45, 46, 47, 48, 49, 50, 51, 52, 53, 54, 55, 56, 57, 58, 59, 60, 69, 70, 71, 72, 73, 74, 75, 76, 77, 78, 79, 80, 81] (by decide +kernel) (by decide +kernel)
set_option maxRecDepth 20000 in
theorem gX1_run_X1_alone : GoodIn wsX1_run (wsV RX1 97 RX1 yX1_alone wsX1_alone) := goodIn_app (goodIn_of _ (by decide +kernel)) ggX1_run_X1_alone
set_option maxRecDepth 20000 in
theorem ggX1_run_X1_chained : GoodIn wsX1_run wsX1_chained := goodIn_r _ [64, 47, 18, 3, 14, 15, 16, 7, 17, 19, 20, 21, 22, 23, 24, 25, 26, 27, 28, 29, 30, 31, 32, 33, 34, 35, 36, 37, 38, 39, 40, 41, 42, 43, 44, 45, 46, 48, 49, 50, 51, 52, 53, 54, 55, 56, 57, 58, 59, 60, 69, 70, 71, 72, 73, 74, 75, 76, 77, 78, 79, 80, 81] (by decide +kernel) (by decide +kernel)
set_option maxRecDepth 20000 in
theorem gX1_run_X1_chained : GoodIn wsX1_run (wsV RX1 100 RX1 yX1_chained wsX1_chained) := goodIn_app (goodIn_of _ (by decide +kernel)) ggX1_run_X1_chained
set_option maxRecDepth 20000 in
theorem ggX1_run_X1_counted : GoodIn wsX1_run wsX1_counted := goodIn_r _ [68, 19, 3, 18, 53, 54, 55, 7, 56, 28, 29, 30, 31, 32, 43, 44, 45, 46, 47, 48, 49, 50, 51, 52, 57, 58, 59, 60, 40, 41, 42, 69, 70, 71, 72, 73, 74, 75, 76, 77, 78, 79, 80, 81] (by decide +kernel) (by decide +kernel)
set_option maxRecDepth 20000 in
theorem gX1_run_X1_counted : GoodIn wsX1_run (wsV RX1 103 RX1 yX1_counted wsX1_counted) := goodIn_app (goodIn_of _ (by decide +kernel)) ggX1_run_X1_counted
set_option maxRecDepth 20000 in
theorem ggX1_seal_X1_isIn : GoodIn wsX1_seal wsX1_isIn := goodIn_r _ [9] (by decide +kernel) (by decide +kernel)
set_option maxRecDepth 20000 in
theorem gX1_seal_X1_isIn : GoodIn wsX1_seal (va_wsS RX1 51 yX1_isIn wsX1_isIn) := goodIn_app (goodIn_of _ (by decide +kernel)) ggX1_seal_X1_isIn
set_option maxRecDepth 20000 in
theorem ggX1_seal_X1_good : GoodIn wsX1_seal wsX1_good := goodIn_r _ [13, 14, 41, 42, 43, 44, 45, 46, 47, 48, 49, 50, 51, 52, 53] (by decide +kernel) (by decide +kernel)
set_option maxRecDepth 20000 in
theorem gX1_seal_X1_good : GoodIn wsX1_seal (wsV RX1 55 RX1 yX1_good wsX1_good) := goodIn_app (goodIn_of _ (by decide +kernel)) ggX1_seal_X1_good
set_option maxRecDepth 20000 in
theorem ggX1_seal_X1_forth : GoodIn wsX1_seal wsX1_forth := goodIn_r _ [18, 19, 20, 21, 8, 22, 4, 23, 24, 25, 26, 27, 28, 29, 30, 31, 32, 33, 34, 35, 36, 37, 38, 39, 40, 41, 42, 43, 44, 45, 46, 47, 48, 49, 50, 51, 52, 53] (by decide +kernel) (by decide +kernel)
set_option maxRecDepth 20000 in
theorem gX1_seal_X1_forth : GoodIn wsX1_seal (wsV RX1 94 RX1 yX1_forth wsX1_forth) := goodIn_app (goodIn_of _ (by decide +kernel)) ggX1_seal_X1_forth
end
section
theorem dX0_init_0 : decode cX0_init 0 = .ok (.aload_n 0, 1) := by decide +kernel
theorem dX0_init_1 : decode cX0_init 1 = .ok (.invokespecial 3, 3) := by decide +kernel
theorem dX0_init_4 : decode cX0_init 4 = .ok (.aload_n 0, 1) := by decide +kernel
theorem dX0_init_5 : decode cX0_init 5 = .ok (.bipush 8, 2) := by decide +kernel
theorem dX0_init_7 : decode cX0_init 7 = .ok (.newarray .int, 2) := by decide +kernel
theorem dX0_init_9 : decode cX0_init 9 = .ok (.putfield 9, 3) := by decide +kernel
theorem dX0_init_12 : decode cX0_init 12 = .ok (.aload_n 0, 1) := by decide +kernel
theorem dX0_init_13 : decode cX0_init 13 = .ok (.sipush 140, 3) := by decide +kernel
theorem dX0_init_16 : decode cX0_init 16 = .ok (.newarray .int, 2) := by decide +kernel
theorem dX0_init_18 : decode cX0_init 18 = .ok (.putfield 13, 3) := by decide +kernel
theorem dX0_init_21 : decode cX0_init 21 = .ok (.aload_n 0, 1) := by decide +kernel
theorem dX0_init_22 : decode cX0_init 22 = .ok (.iconst 4, 1) := by decide +kernel
theorem dX0_init_23 : decode cX0_init 23 = .ok (.newarray .int, 2) := by decide +kernel
theorem dX0_init_25 : decode cX0_init 25 = .ok (.putfield 16, 3) := by decide +kernel
theorem dX0_init_28 : decode cX0_init 28 = .ok (.aload_n 0, 1) := by decide +kernel
theorem dX0_init_29 : decode cX0_init 29 = .ok (.sipush 256, 3) := by decide +kernel
theorem dX0_init_32 : decode cX0_init 32 = .ok (.newarray .int, 2) := by decide +kernel
theorem dX0_init_34 : decode cX0_init 34 = .ok (.putfield 19, 3) := by decide +kernel
theorem dX0_init_37 : decode cX0_init 37 = .ok (.aload_n 0, 1) := by decide +kernel
theorem dX0_init_38 : decode cX0_init 38 = .ok (.iconst 4, 1) := by decide +kernel
theorem dX0_init_39 : decode cX0_init 39 = .ok (.newarray .int, 2) := by decide +kernel
theorem dX0_init_41 : decode cX0_init 41 = .ok (.putfield 22, 3) := by decide +kernel
theorem dX0_init_44 : decode cX0_init 44 = .ok (.aload_n 0, 1) := by decide +kernel
theorem dX0_init_45 : decode cX0_init 45 = .ok (.iconst 4, 1) := by decide +kernel
theorem dX0_init_46 : decode cX0_init 46 = .ok (.newarray .int, 2) := by decide +kernel
theorem dX0_init_48 : decode cX0_init 48 = .ok (.putfield 25, 3) := by decide +kernel
theorem dX0_init_51 : decode cX0_init 51 = .ok (.aload_n 0, 1) := by decide +kernel
theorem dX0_init_52 : decode cX0_init 52 = .ok (.iconst 0, 1) := by decide +kernel
theorem dX0_init_53 : decode cX0_init 53 = .ok (.putfield 28, 3) := by decide +kernel
theorem dX0_init_56 : decode cX0_init 56 = .ok (.aload_n 0, 1) := by decide +kernel
theorem dX0_init_57 : decode cX0_init 57 = .ok (.iconst 0, 1) := by decide +kernel
theorem dX0_init_58 : decode cX0_init 58 = .ok (.putfield 32, 3) := by decide +kernel
theorem dX0_init_61 : decode cX0_init 61 = .ok (.aload_n 0, 1) := by decide +kernel
theorem dX0_init_62 : decode cX0_init 62 = .ok (.iconst 0, 1) := by decide +kernel
theorem dX0_init_63 : decode cX0_init 63 = .ok (.putfield 36, 3) := by decide +kernel
theorem dX0_init_66 : decode cX0_init 66 = .ok (.return_, 1) := by decide +kernel
theorem dX0_key_0 : decode cX0_key 0 = .ok (.iload_n 1, 1) := by decide +kernel
theorem dX0_key_1 : decode cX0_key 1 = .ok (.ifCond .lt 9, 3) := by decide +kernel
theorem dX0_key_4 : decode cX0_key 4 = .ok (.iload_n 1, 1) := by decide +kernel
theorem dX0_key_5 : decode cX0_key 5 = .ok (.bipush 8, 2) := by decide +kernel
theorem dX0_key_7 : decode cX0_key 7 = .ok (.if_icmp .lt 13, 3) := by decide +kernel
theorem dX0_key_10 : decode cX0_key 10 = .ok (.new 39, 3) := by decide +kernel
theorem dX0_key_13 : decode cX0_key 13 = .ok (.dup, 1) := by decide +kernel
theorem dX0_key_14 : decode cX0_key 14 = .ok (.ldc 41, 2) := by decide +kernel
theorem dX0_key_16 : decode cX0_key 16 = .ok (.invokespecial 43, 3) := by decide +kernel
theorem dX0_key_19 : decode cX0_key 19 = .ok (.athrow, 1) := by decide +kernel
theorem dX0_key_20 : decode cX0_key 20 = .ok (.aload_n 0, 1) := by decide +kernel
theorem dX0_key_21 : decode cX0_key 21 = .ok (.getfield 9, 3) := by decide +kernel
theorem dX0_key_24 : decode cX0_key 24 = .ok (.iload_n 1, 1) := by decide +kernel
theorem dX0_key_25 : decode cX0_key 25 = .ok (.iload_n 2, 1) := by decide +kernel
theorem dX0_key_26 : decode cX0_key 26 = .ok (.iastore, 1) := by decide +kernel
theorem dX0_key_27 : decode cX0_key 27 = .ok (.aload_n 0, 1) := by decide +kernel
theorem dX0_key_28 : decode cX0_key 28 = .ok (.iconst 0, 1) := by decide +kernel
theorem dX0_key_29 : decode cX0_key 29 = .ok (.putfield 32, 3) := by decide +kernel
theorem dX0_key_32 : decode cX0_key 32 = .ok (.return_, 1) := by decide +kernel
theorem dX0_size_0 : decode cX0_size 0 = .ok (.iload_n 1, 1) := by decide +kernel
theorem dX0_size_1 : decode cX0_size 1 = .ok (.ifCond .lt 9, 3) := by decide +kernel
theorem dX0_size_4 : decode cX0_size 4 = .ok (.iload_n 1, 1) := by decide +kernel
theorem dX0_size_5 : decode cX0_size 5 = .ok (.bipush 32, 2) := by decide +kernel
theorem dX0_size_7 : decode cX0_size 7 = .ok (.if_icmp .le 13, 3) := by decide +kernel
theorem dX0_size_10 : decode cX0_size 10 = .ok (.new 46, 3) := by decide +kernel
theorem dX0_size_13 : decode cX0_size 13 = .ok (.dup, 1) := by decide +kernel
theorem dX0_size_14 : decode cX0_size 14 = .ok (.ldc 48, 2) := by decide +kernel
theorem dX0_size_16 : decode cX0_size 16 = .ok (.invokespecial 50, 3) := by decide +kernel
theorem dX0_size_19 : decode cX0_size 19 = .ok (.athrow, 1) := by decide +kernel
theorem dX0_size_20 : decode cX0_size 20 = .ok (.aload_n 0, 1) := by decide +kernel
theorem dX0_size_21 : decode cX0_size 21 = .ok (.iload_n 1, 1) := by decide +kernel
theorem dX0_size_22 : decode cX0_size 22 = .ok (.putfield 28, 3) := by decide +kernel
theorem dX0_size_25 : decode cX0_size 25 = .ok (.aload_n 0, 1) := by decide +kernel
theorem dX0_size_26 : decode cX0_size 26 = .ok (.iconst 0, 1) := by decide +kernel
theorem dX0_size_27 : decode cX0_size 27 = .ok (.putfield 32, 3) := by decide +kernel
theorem dX0_size_30 : decode cX0_size 30 = .ok (.return_, 1) := by decide +kernel
theorem dX0_ready_0 : decode cX0_ready 0 = .ok (.iconst 0, 1) := by decide +kernel
theorem dX0_ready_1 : decode cX0_ready 1 = .ok (.istore_n 1, 1) := by decide +kernel
theorem dX0_ready_2 : decode cX0_ready 2 = .ok (.iload_n 1, 1) := by decide +kernel
theorem dX0_ready_3 : decode cX0_ready 3 = .ok (.bipush 8, 2) := by decide +kernel
theorem dX0_ready_5 : decode cX0_ready 5 = .ok (.if_icmp .ge 20, 3) := by decide +kernel
theorem dX0_ready_8 : decode cX0_ready 8 = .ok (.aload_n 0, 1) := by decide +kernel
theorem dX0_ready_9 : decode cX0_ready 9 = .ok (.getfield 13, 3) := by decide +kernel
theorem dX0_ready_12 : decode cX0_ready 12 = .ok (.iload_n 1, 1) := by decide +kernel
theorem dX0_ready_13 : decode cX0_ready 13 = .ok (.aload_n 0, 1) := by decide +kernel
theorem dX0_ready_14 : decode cX0_ready 14 = .ok (.iload_n 1, 1) := by decide +kernel
theorem dX0_ready_15 : decode cX0_ready 15 = .ok (.invokevirtual 51, 3) := by decide +kernel
theorem dX0_ready_18 : decode cX0_ready 18 = .ok (.iastore, 1) := by decide +kernel
theorem dX0_ready_19 : decode cX0_ready 19 = .ok (.iinc 1 1, 3) := by decide +kernel
theorem dX0_ready_22 : decode cX0_ready 22 = .ok (.goto (-20), 3) := by decide +kernel
theorem dX0_ready_25 : decode cX0_ready 25 = .ok (.aload_n 0, 1) := by decide +kernel
theorem dX0_ready_26 : decode cX0_ready 26 = .ok (.invokevirtual 55, 3) := by decide +kernel
theorem dX0_ready_29 : decode cX0_ready 29 = .ok (.iconst 0, 1) := by decide +kernel
theorem dX0_ready_30 : decode cX0_ready 30 = .ok (.istore_n 1, 1) := by decide +kernel
theorem dX0_ready_31 : decode cX0_ready 31 = .ok (.iload_n 1, 1) := by decide +kernel
theorem dX0_ready_32 : decode cX0_ready 32 = .ok (.bipush 32, 2) := by decide +kernel
theorem dX0_ready_34 : decode cX0_ready 34 = .ok (.if_icmp .gt 29, 3) := by decide +kernel
theorem dX0_ready_37 : decode cX0_ready 37 = .ok (.aload_n 0, 1) := by decide +kernel
theorem dX0_ready_38 : decode cX0_ready 38 = .ok (.getfield 13, 3) := by decide +kernel
theorem dX0_ready_41 : decode cX0_ready 41 = .ok (.iload_n 1, 1) := by decide +kernel
theorem dX0_ready_42 : decode cX0_ready 42 = .ok (.invokestatic 58, 3) := by decide +kernel
theorem dX0_ready_45 : decode cX0_ready 45 = .ok (.iconst 3, 1) := by decide +kernel
theorem dX0_ready_46 : decode cX0_ready 46 = .ok (.iload_n 1, 1) := by decide +kernel
theorem dX0_ready_47 : decode cX0_ready 47 = .ok (.isub, 1) := by decide +kernel
theorem dX0_ready_48 : decode cX0_ready 48 = .ok (.bipush 8, 2) := by decide +kernel
theorem dX0_ready_50 : decode cX0_ready 50 = .ok (.invokestatic 61, 3) := by decide +kernel
theorem dX0_ready_53 : decode cX0_ready 53 = .ok (.iconst 0, 1) := by decide +kernel
theorem dX0_ready_54 : decode cX0_ready 54 = .ok (.invokestatic 67, 3) := by decide +kernel
theorem dX0_ready_57 : decode cX0_ready 57 = .ok (.iinc 1 1, 3) := by decide +kernel
theorem dX0_ready_60 : decode cX0_ready 60 = .ok (.goto (-29), 3) := by decide +kernel
theorem dX0_ready_63 : decode cX0_ready 63 = .ok (.aload_n 0, 1) := by decide +kernel
theorem dX0_ready_64 : decode cX0_ready 64 = .ok (.iconst 1, 1) := by decide +kernel
theorem dX0_ready_65 : decode cX0_ready 65 = .ok (.putfield 32, 3) := by decide +kernel
theorem dX0_ready_68 : decode cX0_ready 68 = .ok (.return_, 1) := by decide +kernel
theorem dX0_round_0 : decode cX0_round 0 = .ok (.iload_n 1, 1) := by decide +kernel
theorem dX0_round_1 : decode cX0_round 1 = .ok (.ifCond .lt 18, 3) := by decide +kernel
theorem dX0_round_4 : decode cX0_round 4 = .ok (.iload_n 1, 1) := by decide +kernel
theorem dX0_round_5 : decode cX0_round 5 = .ok (.bipush 32, 2) := by decide +kernel
theorem dX0_round_7 : decode cX0_round 7 = .ok (.if_icmp .gt 12, 3) := by decide +kernel
theorem dX0_round_10 : decode cX0_round 10 = .ok (.iload_n 2, 1) := by decide +kernel
theorem dX0_round_11 : decode cX0_round 11 = .ok (.ifCond .lt 8, 3) := by decide +kernel
theorem dX0_round_14 : decode cX0_round 14 = .ok (.iload_n 2, 1) := by decide +kernel
theorem dX0_round_15 : decode cX0_round 15 = .ok (.iconst 4, 1) := by decide +kernel
theorem dX0_round_16 : decode cX0_round 16 = .ok (.if_icmp .lt 13, 3) := by decide +kernel
theorem dX0_round_19 : decode cX0_round 19 = .ok (.new 39, 3) := by decide +kernel
theorem dX0_round_22 : decode cX0_round 22 = .ok (.dup, 1) := by decide +kernel
theorem dX0_round_23 : decode cX0_round 23 = .ok (.ldc 71, 2) := by decide +kernel
theorem dX0_round_25 : decode cX0_round 25 = .ok (.invokespecial 43, 3) := by decide +kernel
theorem dX0_round_28 : decode cX0_round 28 = .ok (.athrow, 1) := by decide +kernel
theorem dX0_round_29 : decode cX0_round 29 = .ok (.aload_n 0, 1) := by decide +kernel
theorem dX0_round_30 : decode cX0_round 30 = .ok (.invokevirtual 73, 3) := by decide +kernel
theorem dX0_round_33 : decode cX0_round 33 = .ok (.aload_n 0, 1) := by decide +kernel
theorem dX0_round_34 : decode cX0_round 34 = .ok (.getfield 13, 3) := by decide +kernel
theorem dX0_round_37 : decode cX0_round 37 = .ok (.iload_n 1, 1) := by decide +kernel
theorem dX0_round_38 : decode cX0_round 38 = .ok (.invokestatic 58, 3) := by decide +kernel
theorem dX0_round_41 : decode cX0_round 41 = .ok (.iload_n 2, 1) := by decide +kernel
theorem dX0_round_42 : decode cX0_round 42 = .ok (.iadd, 1) := by decide +kernel
theorem dX0_round_43 : decode cX0_round 43 = .ok (.iaload, 1) := by decide +kernel
theorem dX0_round_44 : decode cX0_round 44 = .ok (.ireturn, 1) := by decide +kernel
theorem dX0_box_0 : decode cX0_box 0 = .ok (.iload_n 1, 1) := by decide +kernel
theorem dX0_box_1 : decode cX0_box 1 = .ok (.ifCond .lt 9, 3) := by decide +kernel
theorem dX0_box_4 : decode cX0_box 4 = .ok (.iload_n 1, 1) := by decide +kernel
theorem dX0_box_5 : decode cX0_box 5 = .ok (.bipush 8, 2) := by decide +kernel
theorem dX0_box_7 : decode cX0_box 7 = .ok (.if_icmp .lt 13, 3) := by decide +kernel
theorem dX0_box_10 : decode cX0_box 10 = .ok (.new 39, 3) := by decide +kernel
theorem dX0_box_13 : decode cX0_box 13 = .ok (.dup, 1) := by decide +kernel
theorem dX0_box_14 : decode cX0_box 14 = .ok (.ldc 76, 2) := by decide +kernel
theorem dX0_box_16 : decode cX0_box 16 = .ok (.invokespecial 43, 3) := by decide +kernel
theorem dX0_box_19 : decode cX0_box 19 = .ok (.athrow, 1) := by decide +kernel
theorem dX0_box_20 : decode cX0_box 20 = .ok (.iload_n 2, 1) := by decide +kernel
theorem dX0_box_21 : decode cX0_box 21 = .ok (.ifCond .lt 9, 3) := by decide +kernel
theorem dX0_box_24 : decode cX0_box 24 = .ok (.iload_n 2, 1) := by decide +kernel
theorem dX0_box_25 : decode cX0_box 25 = .ok (.bipush 16, 2) := by decide +kernel
theorem dX0_box_27 : decode cX0_box 27 = .ok (.if_icmp .lt 13, 3) := by decide +kernel
theorem dX0_box_30 : decode cX0_box 30 = .ok (.new 46, 3) := by decide +kernel
theorem dX0_box_33 : decode cX0_box 33 = .ok (.dup, 1) := by decide +kernel
theorem dX0_box_34 : decode cX0_box 34 = .ok (.ldc 78, 2) := by decide +kernel
theorem dX0_box_36 : decode cX0_box 36 = .ok (.invokespecial 50, 3) := by decide +kernel
theorem dX0_box_39 : decode cX0_box 39 = .ok (.athrow, 1) := by decide +kernel
theorem dX0_box_40 : decode cX0_box 40 = .ok (.iload_n 3, 1) := by decide +kernel
theorem dX0_box_41 : decode cX0_box 41 = .ok (.ifCond .eq 11, 3) := by decide +kernel
theorem dX0_box_44 : decode cX0_box 44 = .ok (.iload_n 1, 1) := by decide +kernel
theorem dX0_box_45 : decode cX0_box 45 = .ok (.iload_n 2, 1) := by decide +kernel
theorem dX0_box_46 : decode cX0_box 46 = .ok (.invokestatic 80, 3) := by decide +kernel
theorem dX0_box_49 : decode cX0_box 49 = .ok (.goto 13, 3) := by decide +kernel
theorem dX0_box_52 : decode cX0_box 52 = .ok (.getstatic 83, 3) := by decide +kernel
theorem dX0_box_55 : decode cX0_box 55 = .ok (.iload_n 1, 1) := by decide +kernel
theorem dX0_box_56 : decode cX0_box 56 = .ok (.bipush 16, 2) := by decide +kernel
theorem dX0_box_58 : decode cX0_box 58 = .ok (.imul, 1) := by decide +kernel
theorem dX0_box_59 : decode cX0_box 59 = .ok (.iload_n 2, 1) := by decide +kernel
theorem dX0_box_60 : decode cX0_box 60 = .ok (.iadd, 1) := by decide +kernel
theorem dX0_box_61 : decode cX0_box 61 = .ok (.iaload, 1) := by decide +kernel
theorem dX0_box_62 : decode cX0_box 62 = .ok (.ireturn, 1) := by decide +kernel
theorem dX0_start_0 : decode cX0_start 0 = .ok (.iload_n 1, 1) := by decide +kernel
theorem dX0_start_1 : decode cX0_start 1 = .ok (.ifCond .lt 8, 3) := by decide +kernel
theorem dX0_start_4 : decode cX0_start 4 = .ok (.iload_n 1, 1) := by decide +kernel
theorem dX0_start_5 : decode cX0_start 5 = .ok (.iconst 4, 1) := by decide +kernel
theorem dX0_start_6 : decode cX0_start 6 = .ok (.if_icmp .lt 13, 3) := by decide +kernel
theorem dX0_start_9 : decode cX0_start 9 = .ok (.new 39, 3) := by decide +kernel
theorem dX0_start_12 : decode cX0_start 12 = .ok (.dup, 1) := by decide +kernel
theorem dX0_start_13 : decode cX0_start 13 = .ok (.ldc 86, 2) := by decide +kernel
theorem dX0_start_15 : decode cX0_start 15 = .ok (.invokespecial 43, 3) := by decide +kernel
theorem dX0_start_18 : decode cX0_start 18 = .ok (.athrow, 1) := by decide +kernel
theorem dX0_start_19 : decode cX0_start 19 = .ok (.aload_n 0, 1) := by decide +kernel
theorem dX0_start_20 : decode cX0_start 20 = .ok (.getfield 16, 3) := by decide +kernel
theorem dX0_start_23 : decode cX0_start 23 = .ok (.iload_n 1, 1) := by decide +kernel
theorem dX0_start_24 : decode cX0_start 24 = .ok (.iload_n 2, 1) := by decide +kernel
theorem dX0_start_25 : decode cX0_start 25 = .ok (.iastore, 1) := by decide +kernel
theorem dX0_start_26 : decode cX0_start 26 = .ok (.return_, 1) := by decide +kernel
theorem dX0_put_0 : decode cX0_put 0 = .ok (.aload_n 0, 1) := by decide +kernel
theorem dX0_put_1 : decode cX0_put 1 = .ok (.getfield 36, 3) := by decide +kernel
theorem dX0_put_4 : decode cX0_put 4 = .ok (.iconst 4, 1) := by decide +kernel
theorem dX0_put_5 : decode cX0_put 5 = .ok (.iadd, 1) := by decide +kernel
theorem dX0_put_6 : decode cX0_put 6 = .ok (.sipush 256, 3) := by decide +kernel
theorem dX0_put_9 : decode cX0_put 9 = .ok (.if_icmp .le 13, 3) := by decide +kernel
theorem dX0_put_12 : decode cX0_put 12 = .ok (.new 88, 3) := by decide +kernel
theorem dX0_put_15 : decode cX0_put 15 = .ok (.dup, 1) := by decide +kernel
theorem dX0_put_16 : decode cX0_put 16 = .ok (.ldc 90, 2) := by decide +kernel
theorem dX0_put_18 : decode cX0_put 18 = .ok (.invokespecial 92, 3) := by decide +kernel
theorem dX0_put_21 : decode cX0_put 21 = .ok (.athrow, 1) := by decide +kernel
theorem dX0_put_22 : decode cX0_put 22 = .ok (.aload_n 0, 1) := by decide +kernel
theorem dX0_put_23 : decode cX0_put 23 = .ok (.getfield 19, 3) := by decide +kernel
theorem dX0_put_26 : decode cX0_put 26 = .ok (.aload_n 0, 1) := by decide +kernel
theorem dX0_put_27 : decode cX0_put 27 = .ok (.getfield 36, 3) := by decide +kernel
theorem dX0_put_30 : decode cX0_put 30 = .ok (.iload_n 1, 1) := by decide +kernel
theorem dX0_put_31 : decode cX0_put 31 = .ok (.iastore, 1) := by decide +kernel
theorem dX0_put_32 : decode cX0_put 32 = .ok (.aload_n 0, 1) := by decide +kernel
theorem dX0_put_33 : decode cX0_put 33 = .ok (.getfield 19, 3) := by decide +kernel
theorem dX0_put_36 : decode cX0_put 36 = .ok (.aload_n 0, 1) := by decide +kernel
theorem dX0_put_37 : decode cX0_put 37 = .ok (.getfield 36, 3) := by decide +kernel
theorem dX0_put_40 : decode cX0_put 40 = .ok (.iconst 1, 1) := by decide +kernel
theorem dX0_put_41 : decode cX0_put 41 = .ok (.iadd, 1) := by decide +kernel
theorem dX0_put_42 : decode cX0_put 42 = .ok (.iload_n 2, 1) := by decide +kernel
theorem dX0_put_43 : decode cX0_put 43 = .ok (.iastore, 1) := by decide +kernel
theorem dX0_put_44 : decode cX0_put 44 = .ok (.aload_n 0, 1) := by decide +kernel
theorem dX0_put_45 : decode cX0_put 45 = .ok (.getfield 19, 3) := by decide +kernel
theorem dX0_put_48 : decode cX0_put 48 = .ok (.aload_n 0, 1) := by decide +kernel
theorem dX0_put_49 : decode cX0_put 49 = .ok (.getfield 36, 3) := by decide +kernel
theorem dX0_put_52 : decode cX0_put 52 = .ok (.iconst 2, 1) := by decide +kernel
theorem dX0_put_53 : decode cX0_put 53 = .ok (.iadd, 1) := by decide +kernel
theorem dX0_put_54 : decode cX0_put 54 = .ok (.iload_n 3, 1) := by decide +kernel
theorem dX0_put_55 : decode cX0_put 55 = .ok (.iastore, 1) := by decide +kernel
theorem dX0_put_56 : decode cX0_put 56 = .ok (.aload_n 0, 1) := by decide +kernel
theorem dX0_put_57 : decode cX0_put 57 = .ok (.getfield 19, 3) := by decide +kernel
theorem dX0_put_60 : decode cX0_put 60 = .ok (.aload_n 0, 1) := by decide +kernel
theorem dX0_put_61 : decode cX0_put 61 = .ok (.getfield 36, 3) := by decide +kernel
theorem dX0_put_64 : decode cX0_put 64 = .ok (.iconst 3, 1) := by decide +kernel
theorem dX0_put_65 : decode cX0_put 65 = .ok (.iadd, 1) := by decide +kernel
theorem dX0_put_66 : decode cX0_put 66 = .ok (.iload 4, 2) := by decide +kernel
theorem dX0_put_68 : decode cX0_put 68 = .ok (.iastore, 1) := by decide +kernel
theorem dX0_put_69 : decode cX0_put 69 = .ok (.aload_n 0, 1) := by decide +kernel
theorem dX0_put_70 : decode cX0_put 70 = .ok (.dup, 1) := by decide +kernel
theorem dX0_put_71 : decode cX0_put 71 = .ok (.getfield 36, 3) := by decide +kernel
theorem dX0_put_74 : decode cX0_put 74 = .ok (.iconst 4, 1) := by decide +kernel
theorem dX0_put_75 : decode cX0_put 75 = .ok (.iadd, 1) := by decide +kernel
theorem dX0_put_76 : decode cX0_put 76 = .ok (.putfield 36, 3) := by decide +kernel
theorem dX0_put_79 : decode cX0_put 79 = .ok (.aload_n 0, 1) := by decide +kernel
theorem dX0_put_80 : decode cX0_put 80 = .ok (.getfield 36, 3) := by decide +kernel
theorem dX0_put_83 : decode cX0_put 83 = .ok (.ireturn, 1) := by decide +kernel
theorem dX0_cut_0 : decode cX0_cut 0 = .ok (.iload_n 1, 1) := by decide +kernel
theorem dX0_cut_1 : decode cX0_cut 1 = .ok (.ifCond .lt 11, 3) := by decide +kernel
theorem dX0_cut_4 : decode cX0_cut 4 = .ok (.iload_n 1, 1) := by decide +kernel
theorem dX0_cut_5 : decode cX0_cut 5 = .ok (.aload_n 0, 1) := by decide +kernel
theorem dX0_cut_6 : decode cX0_cut 6 = .ok (.getfield 36, 3) := by decide +kernel
theorem dX0_cut_9 : decode cX0_cut 9 = .ok (.if_icmp .le 13, 3) := by decide +kernel
theorem dX0_cut_12 : decode cX0_cut 12 = .ok (.new 46, 3) := by decide +kernel
theorem dX0_cut_15 : decode cX0_cut 15 = .ok (.dup, 1) := by decide +kernel
theorem dX0_cut_16 : decode cX0_cut 16 = .ok (.ldc 93, 2) := by decide +kernel
theorem dX0_cut_18 : decode cX0_cut 18 = .ok (.invokespecial 50, 3) := by decide +kernel
theorem dX0_cut_21 : decode cX0_cut 21 = .ok (.athrow, 1) := by decide +kernel
theorem dX0_cut_22 : decode cX0_cut 22 = .ok (.aload_n 0, 1) := by decide +kernel
theorem dX0_cut_23 : decode cX0_cut 23 = .ok (.iload_n 1, 1) := by decide +kernel
theorem dX0_cut_24 : decode cX0_cut 24 = .ok (.putfield 36, 3) := by decide +kernel
theorem dX0_cut_27 : decode cX0_cut 27 = .ok (.iload_n 1, 1) := by decide +kernel
theorem dX0_cut_28 : decode cX0_cut 28 = .ok (.ireturn, 1) := by decide +kernel
theorem dX0_word_0 : decode cX0_word 0 = .ok (.iload_n 1, 1) := by decide +kernel
theorem dX0_word_1 : decode cX0_word 1 = .ok (.ifCond .lt 11, 3) := by decide +kernel
theorem dX0_word_4 : decode cX0_word 4 = .ok (.iload_n 1, 1) := by decide +kernel
theorem dX0_word_5 : decode cX0_word 5 = .ok (.aload_n 0, 1) := by decide +kernel
theorem dX0_word_6 : decode cX0_word 6 = .ok (.getfield 36, 3) := by decide +kernel
theorem dX0_word_9 : decode cX0_word 9 = .ok (.if_icmp .lt 13, 3) := by decide +kernel
theorem dX0_word_12 : decode cX0_word 12 = .ok (.new 39, 3) := by decide +kernel
theorem dX0_word_15 : decode cX0_word 15 = .ok (.dup, 1) := by decide +kernel
theorem dX0_word_16 : decode cX0_word 16 = .ok (.ldc 95, 2) := by decide +kernel
theorem dX0_word_18 : decode cX0_word 18 = .ok (.invokespecial 43, 3) := by decide +kernel
theorem dX0_word_21 : decode cX0_word 21 = .ok (.athrow, 1) := by decide +kernel
theorem dX0_word_22 : decode cX0_word 22 = .ok (.aload_n 0, 1) := by decide +kernel
theorem dX0_word_23 : decode cX0_word 23 = .ok (.getfield 19, 3) := by decide +kernel
theorem dX0_word_26 : decode cX0_word 26 = .ok (.iload_n 1, 1) := by decide +kernel
theorem dX0_word_27 : decode cX0_word 27 = .ok (.iaload, 1) := by decide +kernel
theorem dX0_word_28 : decode cX0_word 28 = .ok (.ireturn, 1) := by decide +kernel
theorem dX0_run_0 : decode cX0_run 0 = .ok (.iload_n 1, 1) := by decide +kernel
theorem dX0_run_1 : decode cX0_run 1 = .ok (.ifCond .lt 8, 3) := by decide +kernel
theorem dX0_run_4 : decode cX0_run 4 = .ok (.iload_n 1, 1) := by decide +kernel
theorem dX0_run_5 : decode cX0_run 5 = .ok (.iconst 2, 1) := by decide +kernel
theorem dX0_run_6 : decode cX0_run 6 = .ok (.if_icmp .le 13, 3) := by decide +kernel
theorem dX0_run_9 : decode cX0_run 9 = .ok (.new 46, 3) := by decide +kernel
theorem dX0_run_12 : decode cX0_run 12 = .ok (.dup, 1) := by decide +kernel
theorem dX0_run_13 : decode cX0_run 13 = .ok (.ldc 97, 2) := by decide +kernel
theorem dX0_run_15 : decode cX0_run 15 = .ok (.invokespecial 50, 3) := by decide +kernel
theorem dX0_run_18 : decode cX0_run 18 = .ok (.athrow, 1) := by decide +kernel
theorem dX0_run_19 : decode cX0_run 19 = .ok (.aload_n 0, 1) := by decide +kernel
theorem dX0_run_20 : decode cX0_run 20 = .ok (.invokevirtual 73, 3) := by decide +kernel
theorem dX0_run_23 : decode cX0_run 23 = .ok (.aload_n 0, 1) := by decide +kernel
theorem dX0_run_24 : decode cX0_run 24 = .ok (.invokevirtual 99, 3) := by decide +kernel
theorem dX0_run_27 : decode cX0_run 27 = .ok (.iload_n 1, 1) := by decide +kernel
theorem dX0_run_28 : decode cX0_run 28 = .ok (.iconst 2, 1) := by decide +kernel
theorem dX0_run_29 : decode cX0_run 29 = .ok (.if_icmp .ne 10, 3) := by decide +kernel
theorem dX0_run_32 : decode cX0_run 32 = .ok (.aload_n 0, 1) := by decide +kernel
theorem dX0_run_33 : decode cX0_run 33 = .ok (.invokevirtual 102, 3) := by decide +kernel
theorem dX0_run_36 : decode cX0_run 36 = .ok (.goto 31, 3) := by decide +kernel
theorem dX0_run_39 : decode cX0_run 39 = .ok (.iload_n 1, 1) := by decide +kernel
theorem dX0_run_40 : decode cX0_run 40 = .ok (.iconst 1, 1) := by decide +kernel
theorem dX0_run_41 : decode cX0_run 41 = .ok (.if_icmp .ne 21, 3) := by decide +kernel
theorem dX0_run_44 : decode cX0_run 44 = .ok (.iload_n 2, 1) := by decide +kernel
theorem dX0_run_45 : decode cX0_run 45 = .ok (.ifCond .eq 10, 3) := by decide +kernel
theorem dX0_run_48 : decode cX0_run 48 = .ok (.aload_n 0, 1) := by decide +kernel
theorem dX0_run_49 : decode cX0_run 49 = .ok (.invokevirtual 105, 3) := by decide +kernel
theorem dX0_run_52 : decode cX0_run 52 = .ok (.goto 15, 3) := by decide +kernel
theorem dX0_run_55 : decode cX0_run 55 = .ok (.aload_n 0, 1) := by decide +kernel
theorem dX0_run_56 : decode cX0_run 56 = .ok (.invokevirtual 108, 3) := by decide +kernel
theorem dX0_run_59 : decode cX0_run 59 = .ok (.goto 8, 3) := by decide +kernel
theorem dX0_run_62 : decode cX0_run 62 = .ok (.aload_n 0, 1) := by decide +kernel
theorem dX0_run_63 : decode cX0_run 63 = .ok (.iload_n 2, 1) := by decide +kernel
theorem dX0_run_64 : decode cX0_run 64 = .ok (.invokevirtual 111, 3) := by decide +kernel
theorem dX0_run_67 : decode cX0_run 67 = .ok (.aload_n 0, 1) := by decide +kernel
theorem dX0_run_68 : decode cX0_run 68 = .ok (.getfield 36, 3) := by decide +kernel
theorem dX0_run_71 : decode cX0_run 71 = .ok (.iconst 4, 1) := by decide +kernel
theorem dX0_run_72 : decode cX0_run 72 = .ok (.idiv, 1) := by decide +kernel
theorem dX0_run_73 : decode cX0_run 73 = .ok (.ireturn, 1) := by decide +kernel
theorem dX0_seal_0 : decode cX0_seal 0 = .ok (.iload_n 1, 1) := by decide +kernel
theorem dX0_seal_1 : decode cX0_seal 1 = .ok (.ifCond .lt 8, 3) := by decide +kernel
theorem dX0_seal_4 : decode cX0_seal 4 = .ok (.iload_n 1, 1) := by decide +kernel
theorem dX0_seal_5 : decode cX0_seal 5 = .ok (.iconst 4, 1) := by decide +kernel
theorem dX0_seal_6 : decode cX0_seal 6 = .ok (.if_icmp .lt 13, 3) := by decide +kernel
theorem dX0_seal_9 : decode cX0_seal 9 = .ok (.new 39, 3) := by decide +kernel
theorem dX0_seal_12 : decode cX0_seal 12 = .ok (.dup, 1) := by decide +kernel
theorem dX0_seal_13 : decode cX0_seal 13 = .ok (.ldc 115, 2) := by decide +kernel
theorem dX0_seal_15 : decode cX0_seal 15 = .ok (.invokespecial 43, 3) := by decide +kernel
theorem dX0_seal_18 : decode cX0_seal 18 = .ok (.athrow, 1) := by decide +kernel
theorem dX0_seal_19 : decode cX0_seal 19 = .ok (.aload_n 0, 1) := by decide +kernel
theorem dX0_seal_20 : decode cX0_seal 20 = .ok (.invokevirtual 73, 3) := by decide +kernel
theorem dX0_seal_23 : decode cX0_seal 23 = .ok (.aload_n 0, 1) := by decide +kernel
theorem dX0_seal_24 : decode cX0_seal 24 = .ok (.invokevirtual 99, 3) := by decide +kernel
theorem dX0_seal_27 : decode cX0_seal 27 = .ok (.iconst 0, 1) := by decide +kernel
theorem dX0_seal_28 : decode cX0_seal 28 = .ok (.istore_n 2, 1) := by decide +kernel
theorem dX0_seal_29 : decode cX0_seal 29 = .ok (.iload_n 2, 1) := by decide +kernel
theorem dX0_seal_30 : decode cX0_seal 30 = .ok (.iconst 4, 1) := by decide +kernel
theorem dX0_seal_31 : decode cX0_seal 31 = .ok (.if_icmp .ge 16, 3) := by decide +kernel
theorem dX0_seal_34 : decode cX0_seal 34 = .ok (.aload_n 0, 1) := by decide +kernel
theorem dX0_seal_35 : decode cX0_seal 35 = .ok (.getfield 25, 3) := by decide +kernel
theorem dX0_seal_38 : decode cX0_seal 38 = .ok (.iload_n 2, 1) := by decide +kernel
theorem dX0_seal_39 : decode cX0_seal 39 = .ok (.iconst 0, 1) := by decide +kernel
theorem dX0_seal_40 : decode cX0_seal 40 = .ok (.iastore, 1) := by decide +kernel
theorem dX0_seal_41 : decode cX0_seal 41 = .ok (.iinc 2 1, 3) := by decide +kernel
theorem dX0_seal_44 : decode cX0_seal 44 = .ok (.goto (-15), 3) := by decide +kernel
theorem dX0_seal_47 : decode cX0_seal 47 = .ok (.iconst 0, 1) := by decide +kernel
theorem dX0_seal_48 : decode cX0_seal 48 = .ok (.istore_n 2, 1) := by decide +kernel
theorem dX0_seal_49 : decode cX0_seal 49 = .ok (.iload_n 2, 1) := by decide +kernel
theorem dX0_seal_50 : decode cX0_seal 50 = .ok (.aload_n 0, 1) := by decide +kernel
theorem dX0_seal_51 : decode cX0_seal 51 = .ok (.getfield 36, 3) := by decide +kernel
theorem dX0_seal_54 : decode cX0_seal 54 = .ok (.if_icmp .ge 31, 3) := by decide +kernel
theorem dX0_seal_57 : decode cX0_seal 57 = .ok (.aload_n 0, 1) := by decide +kernel
theorem dX0_seal_58 : decode cX0_seal 58 = .ok (.getfield 25, 3) := by decide +kernel
theorem dX0_seal_61 : decode cX0_seal 61 = .ok (.iconst 0, 1) := by decide +kernel
theorem dX0_seal_62 : decode cX0_seal 62 = .ok (.aload_n 0, 1) := by decide +kernel
theorem dX0_seal_63 : decode cX0_seal 63 = .ok (.getfield 19, 3) := by decide +kernel
theorem dX0_seal_66 : decode cX0_seal 66 = .ok (.iload_n 2, 1) := by decide +kernel
theorem dX0_seal_67 : decode cX0_seal 67 = .ok (.invokestatic 117, 3) := by decide +kernel
theorem dX0_seal_70 : decode cX0_seal 70 = .ok (.aload_n 0, 1) := by decide +kernel
theorem dX0_seal_71 : decode cX0_seal 71 = .ok (.aload_n 0, 1) := by decide +kernel
theorem dX0_seal_72 : decode cX0_seal 72 = .ok (.getfield 25, 3) := by decide +kernel
theorem dX0_seal_75 : decode cX0_seal 75 = .ok (.iconst 0, 1) := by decide +kernel
theorem dX0_seal_76 : decode cX0_seal 76 = .ok (.invokevirtual 121, 3) := by decide +kernel
theorem dX0_seal_79 : decode cX0_seal 79 = .ok (.iinc 2 4, 3) := by decide +kernel
theorem dX0_seal_82 : decode cX0_seal 82 = .ok (.goto (-33), 3) := by decide +kernel
theorem dX0_seal_85 : decode cX0_seal 85 = .ok (.aload_n 0, 1) := by decide +kernel
theorem dX0_seal_86 : decode cX0_seal 86 = .ok (.getfield 25, 3) := by decide +kernel
theorem dX0_seal_89 : decode cX0_seal 89 = .ok (.iload_n 1, 1) := by decide +kernel
theorem dX0_seal_90 : decode cX0_seal 90 = .ok (.iaload, 1) := by decide +kernel
theorem dX0_seal_91 : decode cX0_seal 91 = .ok (.ireturn, 1) := by decide +kernel
theorem dX0_needReadyKey_0 : decode cX0_needReadyKey 0 = .ok (.aload_n 0, 1) := by decide +kernel
theorem dX0_needReadyKey_1 : decode cX0_needReadyKey 1 = .ok (.getfield 32, 3) := by decide +kernel
theorem dX0_needReadyKey_4 : decode cX0_needReadyKey 4 = .ok (.ifCond .ne 13, 3) := by decide +kernel
theorem dX0_needReadyKey_7 : decode cX0_needReadyKey 7 = .ok (.new 88, 3) := by decide +kernel
theorem dX0_needReadyKey_10 : decode cX0_needReadyKey 10 = .ok (.dup, 1) := by decide +kernel
theorem dX0_needReadyKey_11 : decode cX0_needReadyKey 11 = .ok (.ldc 125, 2) := by decide +kernel
theorem dX0_needReadyKey_13 : decode cX0_needReadyKey 13 = .ok (.invokespecial 92, 3) := by decide +kernel
theorem dX0_needReadyKey_16 : decode cX0_needReadyKey 16 = .ok (.athrow, 1) := by decide +kernel
theorem dX0_needReadyKey_17 : decode cX0_needReadyKey 17 = .ok (.return_, 1) := by decide +kernel
theorem dX0_needWholeBlocks_0 : decode cX0_needWholeBlocks 0 = .ok (.aload_n 0, 1) := by decide +kernel
theorem dX0_needWholeBlocks_1 : decode cX0_needWholeBlocks 1 = .ok (.getfield 36, 3) := by decide +kernel
theorem dX0_needWholeBlocks_4 : decode cX0_needWholeBlocks 4 = .ok (.iconst 4, 1) := by decide +kernel
theorem dX0_needWholeBlocks_5 : decode cX0_needWholeBlocks 5 = .ok (.irem, 1) := by decide +kernel
theorem dX0_needWholeBlocks_6 : decode cX0_needWholeBlocks 6 = .ok (.ifCond .eq 13, 3) := by decide +kernel
theorem dX0_needWholeBlocks_9 : decode cX0_needWholeBlocks 9 = .ok (.new 88, 3) := by decide +kernel
theorem dX0_needWholeBlocks_12 : decode cX0_needWholeBlocks 12 = .ok (.dup, 1) := by decide +kernel
theorem dX0_needWholeBlocks_13 : decode cX0_needWholeBlocks 13 = .ok (.ldc 127, 2) := by decide +kernel
theorem dX0_needWholeBlocks_15 : decode cX0_needWholeBlocks 15 = .ok (.invokespecial 92, 3) := by decide +kernel
theorem dX0_needWholeBlocks_18 : decode cX0_needWholeBlocks 18 = .ok (.athrow, 1) := by decide +kernel
theorem dX0_needWholeBlocks_19 : decode cX0_needWholeBlocks 19 = .ok (.return_, 1) := by decide +kernel
theorem dX0_paddedKeyWord_0 : decode cX0_paddedKeyWord 0 = .ok (.iconst 0, 1) := by decide +kernel
theorem dX0_paddedKeyWord_1 : decode cX0_paddedKeyWord 1 = .ok (.istore_n 2, 1) := by decide +kernel
theorem dX0_paddedKeyWord_2 : decode cX0_paddedKeyWord 2 = .ok (.iconst 0, 1) := by decide +kernel
theorem dX0_paddedKeyWord_3 : decode cX0_paddedKeyWord 3 = .ok (.istore_n 3, 1) := by decide +kernel
theorem dX0_paddedKeyWord_4 : decode cX0_paddedKeyWord 4 = .ok (.iload_n 3, 1) := by decide +kernel
theorem dX0_paddedKeyWord_5 : decode cX0_paddedKeyWord 5 = .ok (.iconst 4, 1) := by decide +kernel
theorem dX0_paddedKeyWord_6 : decode cX0_paddedKeyWord 6 = .ok (.if_icmp .ge 26, 3) := by decide +kernel
theorem dX0_paddedKeyWord_9 : decode cX0_paddedKeyWord 9 = .ok (.iload_n 2, 1) := by decide +kernel
theorem dX0_paddedKeyWord_10 : decode cX0_paddedKeyWord 10 = .ok (.aload_n 0, 1) := by decide +kernel
theorem dX0_paddedKeyWord_11 : decode cX0_paddedKeyWord 11 = .ok (.iconst 4, 1) := by decide +kernel
theorem dX0_paddedKeyWord_12 : decode cX0_paddedKeyWord 12 = .ok (.iload_n 1, 1) := by decide +kernel
theorem dX0_paddedKeyWord_13 : decode cX0_paddedKeyWord 13 = .ok (.imul, 1) := by decide +kernel
theorem dX0_paddedKeyWord_14 : decode cX0_paddedKeyWord 14 = .ok (.iload_n 3, 1) := by decide +kernel
theorem dX0_paddedKeyWord_15 : decode cX0_paddedKeyWord 15 = .ok (.iadd, 1) := by decide +kernel
theorem dX0_paddedKeyWord_16 : decode cX0_paddedKeyWord 16 = .ok (.invokevirtual 129, 3) := by decide +kernel
theorem dX0_paddedKeyWord_19 : decode cX0_paddedKeyWord 19 = .ok (.bipush 8, 2) := by decide +kernel
theorem dX0_paddedKeyWord_21 : decode cX0_paddedKeyWord 21 = .ok (.iload_n 3, 1) := by decide +kernel
theorem dX0_paddedKeyWord_22 : decode cX0_paddedKeyWord 22 = .ok (.imul, 1) := by decide +kernel
theorem dX0_paddedKeyWord_23 : decode cX0_paddedKeyWord 23 = .ok (.ishl, 1) := by decide +kernel
theorem dX0_paddedKeyWord_24 : decode cX0_paddedKeyWord 24 = .ok (.ior, 1) := by decide +kernel
theorem dX0_paddedKeyWord_25 : decode cX0_paddedKeyWord 25 = .ok (.istore_n 2, 1) := by decide +kernel
theorem dX0_paddedKeyWord_26 : decode cX0_paddedKeyWord 26 = .ok (.iinc 3 1, 3) := by decide +kernel
theorem dX0_paddedKeyWord_29 : decode cX0_paddedKeyWord 29 = .ok (.goto (-25), 3) := by decide +kernel
theorem dX0_paddedKeyWord_32 : decode cX0_paddedKeyWord 32 = .ok (.iload_n 2, 1) := by decide +kernel
theorem dX0_paddedKeyWord_33 : decode cX0_paddedKeyWord 33 = .ok (.ireturn, 1) := by decide +kernel
theorem dX0_paddedKeyByte_0 : decode cX0_paddedKeyByte 0 = .ok (.iload_n 1, 1) := by decide +kernel
theorem dX0_paddedKeyByte_1 : decode cX0_paddedKeyByte 1 = .ok (.aload_n 0, 1) := by decide +kernel
theorem dX0_paddedKeyByte_2 : decode cX0_paddedKeyByte 2 = .ok (.getfield 28, 3) := by decide +kernel
theorem dX0_paddedKeyByte_5 : decode cX0_paddedKeyByte 5 = .ok (.if_icmp .ge 23, 3) := by decide +kernel
theorem dX0_paddedKeyByte_8 : decode cX0_paddedKeyByte 8 = .ok (.aload_n 0, 1) := by decide +kernel
theorem dX0_paddedKeyByte_9 : decode cX0_paddedKeyByte 9 = .ok (.getfield 9, 3) := by decide +kernel
theorem dX0_paddedKeyByte_12 : decode cX0_paddedKeyByte 12 = .ok (.iload_n 1, 1) := by decide +kernel
theorem dX0_paddedKeyByte_13 : decode cX0_paddedKeyByte 13 = .ok (.iconst 4, 1) := by decide +kernel
theorem dX0_paddedKeyByte_14 : decode cX0_paddedKeyByte 14 = .ok (.idiv, 1) := by decide +kernel
theorem dX0_paddedKeyByte_15 : decode cX0_paddedKeyByte 15 = .ok (.iaload, 1) := by decide +kernel
theorem dX0_paddedKeyByte_16 : decode cX0_paddedKeyByte 16 = .ok (.bipush 8, 2) := by decide +kernel
theorem dX0_paddedKeyByte_18 : decode cX0_paddedKeyByte 18 = .ok (.iload_n 1, 1) := by decide +kernel
theorem dX0_paddedKeyByte_19 : decode cX0_paddedKeyByte 19 = .ok (.iconst 4, 1) := by decide +kernel
theorem dX0_paddedKeyByte_20 : decode cX0_paddedKeyByte 20 = .ok (.irem, 1) := by decide +kernel
theorem dX0_paddedKeyByte_21 : decode cX0_paddedKeyByte 21 = .ok (.imul, 1) := by decide +kernel
theorem dX0_paddedKeyByte_22 : decode cX0_paddedKeyByte 22 = .ok (.iushr, 1) := by decide +kernel
theorem dX0_paddedKeyByte_23 : decode cX0_paddedKeyByte 23 = .ok (.sipush 255, 3) := by decide +kernel
theorem dX0_paddedKeyByte_26 : decode cX0_paddedKeyByte 26 = .ok (.iand, 1) := by decide +kernel
theorem dX0_paddedKeyByte_27 : decode cX0_paddedKeyByte 27 = .ok (.ireturn, 1) := by decide +kernel
theorem dX0_paddedKeyByte_28 : decode cX0_paddedKeyByte 28 = .ok (.iload_n 1, 1) := by decide +kernel
theorem dX0_paddedKeyByte_29 : decode cX0_paddedKeyByte 29 = .ok (.aload_n 0, 1) := by decide +kernel
theorem dX0_paddedKeyByte_30 : decode cX0_paddedKeyByte 30 = .ok (.getfield 28, 3) := by decide +kernel
theorem dX0_paddedKeyByte_33 : decode cX0_paddedKeyByte 33 = .ok (.if_icmp .ne 7, 3) := by decide +kernel
theorem dX0_paddedKeyByte_36 : decode cX0_paddedKeyByte 36 = .ok (.iconst 1, 1) := by decide +kernel
theorem dX0_paddedKeyByte_37 : decode cX0_paddedKeyByte 37 = .ok (.goto 4, 3) := by decide +kernel
theorem dX0_paddedKeyByte_40 : decode cX0_paddedKeyByte 40 = .ok (.iconst 0, 1) := by decide +kernel
theorem dX0_paddedKeyByte_41 : decode cX0_paddedKeyByte 41 = .ok (.ireturn, 1) := by decide +kernel
theorem dX0_spreadKey_0 : decode cX0_spreadKey 0 = .ok (.iconst 0, 1) := by decide +kernel
theorem dX0_spreadKey_1 : decode cX0_spreadKey 1 = .ok (.istore_n 1, 1) := by decide +kernel
theorem dX0_spreadKey_2 : decode cX0_spreadKey 2 = .ok (.iload_n 1, 1) := by decide +kernel
theorem dX0_spreadKey_3 : decode cX0_spreadKey 3 = .ok (.sipush 132, 3) := by decide +kernel
theorem dX0_spreadKey_6 : decode cX0_spreadKey 6 = .ok (.if_icmp .ge 68, 3) := by decide +kernel
theorem dX0_spreadKey_9 : decode cX0_spreadKey 9 = .ok (.iload_n 1, 1) := by decide +kernel
theorem dX0_spreadKey_10 : decode cX0_spreadKey 10 = .ok (.bipush 8, 2) := by decide +kernel
theorem dX0_spreadKey_12 : decode cX0_spreadKey 12 = .ok (.iadd, 1) := by decide +kernel
theorem dX0_spreadKey_13 : decode cX0_spreadKey 13 = .ok (.istore_n 2, 1) := by decide +kernel
theorem dX0_spreadKey_14 : decode cX0_spreadKey 14 = .ok (.aload_n 0, 1) := by decide +kernel
theorem dX0_spreadKey_15 : decode cX0_spreadKey 15 = .ok (.getfield 13, 3) := by decide +kernel
theorem dX0_spreadKey_18 : decode cX0_spreadKey 18 = .ok (.iload_n 2, 1) := by decide +kernel
theorem dX0_spreadKey_19 : decode cX0_spreadKey 19 = .ok (.bipush 8, 2) := by decide +kernel
theorem dX0_spreadKey_21 : decode cX0_spreadKey 21 = .ok (.isub, 1) := by decide +kernel
theorem dX0_spreadKey_22 : decode cX0_spreadKey 22 = .ok (.iaload, 1) := by decide +kernel
theorem dX0_spreadKey_23 : decode cX0_spreadKey 23 = .ok (.aload_n 0, 1) := by decide +kernel
theorem dX0_spreadKey_24 : decode cX0_spreadKey 24 = .ok (.getfield 13, 3) := by decide +kernel
theorem dX0_spreadKey_27 : decode cX0_spreadKey 27 = .ok (.iload_n 2, 1) := by decide +kernel
theorem dX0_spreadKey_28 : decode cX0_spreadKey 28 = .ok (.iconst 5, 1) := by decide +kernel
theorem dX0_spreadKey_29 : decode cX0_spreadKey 29 = .ok (.isub, 1) := by decide +kernel
theorem dX0_spreadKey_30 : decode cX0_spreadKey 30 = .ok (.iaload, 1) := by decide +kernel
theorem dX0_spreadKey_31 : decode cX0_spreadKey 31 = .ok (.ixor, 1) := by decide +kernel
theorem dX0_spreadKey_32 : decode cX0_spreadKey 32 = .ok (.aload_n 0, 1) := by decide +kernel
theorem dX0_spreadKey_33 : decode cX0_spreadKey 33 = .ok (.getfield 13, 3) := by decide +kernel
theorem dX0_spreadKey_36 : decode cX0_spreadKey 36 = .ok (.iload_n 2, 1) := by decide +kernel
theorem dX0_spreadKey_37 : decode cX0_spreadKey 37 = .ok (.iconst 3, 1) := by decide +kernel
theorem dX0_spreadKey_38 : decode cX0_spreadKey 38 = .ok (.isub, 1) := by decide +kernel
theorem dX0_spreadKey_39 : decode cX0_spreadKey 39 = .ok (.iaload, 1) := by decide +kernel
theorem dX0_spreadKey_40 : decode cX0_spreadKey 40 = .ok (.ixor, 1) := by decide +kernel
theorem dX0_spreadKey_41 : decode cX0_spreadKey 41 = .ok (.aload_n 0, 1) := by decide +kernel
theorem dX0_spreadKey_42 : decode cX0_spreadKey 42 = .ok (.getfield 13, 3) := by decide +kernel
theorem dX0_spreadKey_45 : decode cX0_spreadKey 45 = .ok (.iload_n 2, 1) := by decide +kernel
theorem dX0_spreadKey_46 : decode cX0_spreadKey 46 = .ok (.iconst 1, 1) := by decide +kernel
theorem dX0_spreadKey_47 : decode cX0_spreadKey 47 = .ok (.isub, 1) := by decide +kernel
theorem dX0_spreadKey_48 : decode cX0_spreadKey 48 = .ok (.iaload, 1) := by decide +kernel
theorem dX0_spreadKey_49 : decode cX0_spreadKey 49 = .ok (.ixor, 1) := by decide +kernel
theorem dX0_spreadKey_50 : decode cX0_spreadKey 50 = .ok (.istore_n 3, 1) := by decide +kernel
theorem dX0_spreadKey_51 : decode cX0_spreadKey 51 = .ok (.aload_n 0, 1) := by decide +kernel
theorem dX0_spreadKey_52 : decode cX0_spreadKey 52 = .ok (.getfield 13, 3) := by decide +kernel
theorem dX0_spreadKey_55 : decode cX0_spreadKey 55 = .ok (.iload_n 2, 1) := by decide +kernel
theorem dX0_spreadKey_56 : decode cX0_spreadKey 56 = .ok (.iload_n 3, 1) := by decide +kernel
theorem dX0_spreadKey_57 : decode cX0_spreadKey 57 = .ok (.ldc 132, 2) := by decide +kernel
theorem dX0_spreadKey_59 : decode cX0_spreadKey 59 = .ok (.ixor, 1) := by decide +kernel
theorem dX0_spreadKey_60 : decode cX0_spreadKey 60 = .ok (.iload_n 1, 1) := by decide +kernel
theorem dX0_spreadKey_61 : decode cX0_spreadKey 61 = .ok (.ixor, 1) := by decide +kernel
theorem dX0_spreadKey_62 : decode cX0_spreadKey 62 = .ok (.bipush 11, 2) := by decide +kernel
theorem dX0_spreadKey_64 : decode cX0_spreadKey 64 = .ok (.invokestatic 133, 3) := by decide +kernel
theorem dX0_spreadKey_67 : decode cX0_spreadKey 67 = .ok (.iastore, 1) := by decide +kernel
theorem dX0_spreadKey_68 : decode cX0_spreadKey 68 = .ok (.iinc 1 1, 3) := by decide +kernel
theorem dX0_spreadKey_71 : decode cX0_spreadKey 71 = .ok (.goto (-69), 3) := by decide +kernel
theorem dX0_spreadKey_74 : decode cX0_spreadKey 74 = .ok (.return_, 1) := by decide +kernel
theorem dX0_roundKeyAt_0 : decode cX0_roundKeyAt 0 = .ok (.bipush 8, 2) := by decide +kernel
theorem dX0_roundKeyAt_2 : decode cX0_roundKeyAt 2 = .ok (.iconst 4, 1) := by decide +kernel
theorem dX0_roundKeyAt_3 : decode cX0_roundKeyAt 3 = .ok (.iload_n 0, 1) := by decide +kernel
theorem dX0_roundKeyAt_4 : decode cX0_roundKeyAt 4 = .ok (.imul, 1) := by decide +kernel
theorem dX0_roundKeyAt_5 : decode cX0_roundKeyAt 5 = .ok (.iadd, 1) := by decide +kernel
theorem dX0_roundKeyAt_6 : decode cX0_roundKeyAt 6 = .ok (.ireturn, 1) := by decide +kernel
theorem dX0_sourceInBox_0 : decode cX0_sourceInBox 0 = .ok (.iconst 0, 1) := by decide +kernel
theorem dX0_sourceInBox_1 : decode cX0_sourceInBox 1 = .ok (.istore_n 2, 1) := by decide +kernel
theorem dX0_sourceInBox_2 : decode cX0_sourceInBox 2 = .ok (.iconst 0, 1) := by decide +kernel
theorem dX0_sourceInBox_3 : decode cX0_sourceInBox 3 = .ok (.istore_n 3, 1) := by decide +kernel
theorem dX0_sourceInBox_4 : decode cX0_sourceInBox 4 = .ok (.iload_n 3, 1) := by decide +kernel
theorem dX0_sourceInBox_5 : decode cX0_sourceInBox 5 = .ok (.bipush 16, 2) := by decide +kernel
theorem dX0_sourceInBox_7 : decode cX0_sourceInBox 7 = .ok (.if_icmp .ge 25, 3) := by decide +kernel
theorem dX0_sourceInBox_10 : decode cX0_sourceInBox 10 = .ok (.getstatic 83, 3) := by decide +kernel
theorem dX0_sourceInBox_13 : decode cX0_sourceInBox 13 = .ok (.iload_n 0, 1) := by decide +kernel
theorem dX0_sourceInBox_14 : decode cX0_sourceInBox 14 = .ok (.bipush 16, 2) := by decide +kernel
theorem dX0_sourceInBox_16 : decode cX0_sourceInBox 16 = .ok (.imul, 1) := by decide +kernel
theorem dX0_sourceInBox_17 : decode cX0_sourceInBox 17 = .ok (.iload_n 3, 1) := by decide +kernel
theorem dX0_sourceInBox_18 : decode cX0_sourceInBox 18 = .ok (.iadd, 1) := by decide +kernel
theorem dX0_sourceInBox_19 : decode cX0_sourceInBox 19 = .ok (.iaload, 1) := by decide +kernel
theorem dX0_sourceInBox_20 : decode cX0_sourceInBox 20 = .ok (.iload_n 1, 1) := by decide +kernel
theorem dX0_sourceInBox_21 : decode cX0_sourceInBox 21 = .ok (.if_icmp .ne 5, 3) := by decide +kernel
theorem dX0_sourceInBox_24 : decode cX0_sourceInBox 24 = .ok (.iload_n 3, 1) := by decide +kernel
theorem dX0_sourceInBox_25 : decode cX0_sourceInBox 25 = .ok (.istore_n 2, 1) := by decide +kernel
theorem dX0_sourceInBox_26 : decode cX0_sourceInBox 26 = .ok (.iinc 3 1, 3) := by decide +kernel
theorem dX0_sourceInBox_29 : decode cX0_sourceInBox 29 = .ok (.goto (-25), 3) := by decide +kernel
theorem dX0_sourceInBox_32 : decode cX0_sourceInBox 32 = .ok (.iload_n 2, 1) := by decide +kernel
theorem dX0_sourceInBox_33 : decode cX0_sourceInBox 33 = .ok (.ireturn, 1) := by decide +kernel
theorem dX0_changeEachBlock_0 : decode cX0_changeEachBlock 0 = .ok (.iconst 0, 1) := by decide +kernel
theorem dX0_changeEachBlock_1 : decode cX0_changeEachBlock 1 = .ok (.istore_n 2, 1) := by decide +kernel
theorem dX0_changeEachBlock_2 : decode cX0_changeEachBlock 2 = .ok (.iload_n 2, 1) := by decide +kernel
theorem dX0_changeEachBlock_3 : decode cX0_changeEachBlock 3 = .ok (.aload_n 0, 1) := by decide +kernel
theorem dX0_changeEachBlock_4 : decode cX0_changeEachBlock 4 = .ok (.getfield 36, 3) := by decide +kernel
theorem dX0_changeEachBlock_7 : decode cX0_changeEachBlock 7 = .ok (.if_icmp .ge 34, 3) := by decide +kernel
theorem dX0_changeEachBlock_10 : decode cX0_changeEachBlock 10 = .ok (.iload_n 1, 1) := by decide +kernel
theorem dX0_changeEachBlock_11 : decode cX0_changeEachBlock 11 = .ok (.ifCond .eq 15, 3) := by decide +kernel
theorem dX0_changeEachBlock_14 : decode cX0_changeEachBlock 14 = .ok (.aload_n 0, 1) := by decide +kernel
theorem dX0_changeEachBlock_15 : decode cX0_changeEachBlock 15 = .ok (.aload_n 0, 1) := by decide +kernel
theorem dX0_changeEachBlock_16 : decode cX0_changeEachBlock 16 = .ok (.getfield 19, 3) := by decide +kernel
theorem dX0_changeEachBlock_19 : decode cX0_changeEachBlock 19 = .ok (.iload_n 2, 1) := by decide +kernel
theorem dX0_changeEachBlock_20 : decode cX0_changeEachBlock 20 = .ok (.invokevirtual 138, 3) := by decide +kernel
theorem dX0_changeEachBlock_23 : decode cX0_changeEachBlock 23 = .ok (.goto 12, 3) := by decide +kernel
theorem dX0_changeEachBlock_26 : decode cX0_changeEachBlock 26 = .ok (.aload_n 0, 1) := by decide +kernel
theorem dX0_changeEachBlock_27 : decode cX0_changeEachBlock 27 = .ok (.aload_n 0, 1) := by decide +kernel
theorem dX0_changeEachBlock_28 : decode cX0_changeEachBlock 28 = .ok (.getfield 19, 3) := by decide +kernel
theorem dX0_changeEachBlock_31 : decode cX0_changeEachBlock 31 = .ok (.iload_n 2, 1) := by decide +kernel
theorem dX0_changeEachBlock_32 : decode cX0_changeEachBlock 32 = .ok (.invokevirtual 121, 3) := by decide +kernel
theorem dX0_changeEachBlock_35 : decode cX0_changeEachBlock 35 = .ok (.iinc 2 4, 3) := by decide +kernel
theorem dX0_changeEachBlock_38 : decode cX0_changeEachBlock 38 = .ok (.goto (-36), 3) := by decide +kernel
theorem dX0_changeEachBlock_41 : decode cX0_changeEachBlock 41 = .ok (.return_, 1) := by decide +kernel
theorem dX0_chainTape_0 : decode cX0_chainTape 0 = .ok (.iconst 0, 1) := by decide +kernel
theorem dX0_chainTape_1 : decode cX0_chainTape 1 = .ok (.istore_n 1, 1) := by decide +kernel
theorem dX0_chainTape_2 : decode cX0_chainTape 2 = .ok (.iload_n 1, 1) := by decide +kernel
theorem dX0_chainTape_3 : decode cX0_chainTape 3 = .ok (.aload_n 0, 1) := by decide +kernel
theorem dX0_chainTape_4 : decode cX0_chainTape 4 = .ok (.getfield 36, 3) := by decide +kernel
theorem dX0_chainTape_7 : decode cX0_chainTape 7 = .ok (.if_icmp .ge 23, 3) := by decide +kernel
theorem dX0_chainTape_10 : decode cX0_chainTape 10 = .ok (.aload_n 0, 1) := by decide +kernel
theorem dX0_chainTape_11 : decode cX0_chainTape 11 = .ok (.iload_n 1, 1) := by decide +kernel
theorem dX0_chainTape_12 : decode cX0_chainTape 12 = .ok (.invokevirtual 141, 3) := by decide +kernel
theorem dX0_chainTape_15 : decode cX0_chainTape 15 = .ok (.aload_n 0, 1) := by decide +kernel
theorem dX0_chainTape_16 : decode cX0_chainTape 16 = .ok (.aload_n 0, 1) := by decide +kernel
theorem dX0_chainTape_17 : decode cX0_chainTape 17 = .ok (.getfield 19, 3) := by decide +kernel
theorem dX0_chainTape_20 : decode cX0_chainTape 20 = .ok (.iload_n 1, 1) := by decide +kernel
theorem dX0_chainTape_21 : decode cX0_chainTape 21 = .ok (.invokevirtual 121, 3) := by decide +kernel
theorem dX0_chainTape_24 : decode cX0_chainTape 24 = .ok (.iinc 1 4, 3) := by decide +kernel
theorem dX0_chainTape_27 : decode cX0_chainTape 27 = .ok (.goto (-25), 3) := by decide +kernel
theorem dX0_chainTape_30 : decode cX0_chainTape 30 = .ok (.return_, 1) := by decide +kernel
theorem dX0_unchainTape_0 : decode cX0_unchainTape 0 = .ok (.aload_n 0, 1) := by decide +kernel
theorem dX0_unchainTape_1 : decode cX0_unchainTape 1 = .ok (.getfield 36, 3) := by decide +kernel
theorem dX0_unchainTape_4 : decode cX0_unchainTape 4 = .ok (.iconst 4, 1) := by decide +kernel
theorem dX0_unchainTape_5 : decode cX0_unchainTape 5 = .ok (.isub, 1) := by decide +kernel
theorem dX0_unchainTape_6 : decode cX0_unchainTape 6 = .ok (.istore_n 1, 1) := by decide +kernel
theorem dX0_unchainTape_7 : decode cX0_unchainTape 7 = .ok (.iload_n 1, 1) := by decide +kernel
theorem dX0_unchainTape_8 : decode cX0_unchainTape 8 = .ok (.ifCond .lt 23, 3) := by decide +kernel
theorem dX0_unchainTape_11 : decode cX0_unchainTape 11 = .ok (.aload_n 0, 1) := by decide +kernel
theorem dX0_unchainTape_12 : decode cX0_unchainTape 12 = .ok (.aload_n 0, 1) := by decide +kernel
theorem dX0_unchainTape_13 : decode cX0_unchainTape 13 = .ok (.getfield 19, 3) := by decide +kernel
theorem dX0_unchainTape_16 : decode cX0_unchainTape 16 = .ok (.iload_n 1, 1) := by decide +kernel
theorem dX0_unchainTape_17 : decode cX0_unchainTape 17 = .ok (.invokevirtual 138, 3) := by decide +kernel
theorem dX0_unchainTape_20 : decode cX0_unchainTape 20 = .ok (.aload_n 0, 1) := by decide +kernel
theorem dX0_unchainTape_21 : decode cX0_unchainTape 21 = .ok (.iload_n 1, 1) := by decide +kernel
theorem dX0_unchainTape_22 : decode cX0_unchainTape 22 = .ok (.invokevirtual 141, 3) := by decide +kernel
theorem dX0_unchainTape_25 : decode cX0_unchainTape 25 = .ok (.iinc 1 (-4), 3) := by decide +kernel
theorem dX0_unchainTape_28 : decode cX0_unchainTape 28 = .ok (.goto (-21), 3) := by decide +kernel
theorem dX0_unchainTape_31 : decode cX0_unchainTape 31 = .ok (.return_, 1) := by decide +kernel
theorem dX0_xorWithOneBefore_0 : decode cX0_xorWithOneBefore 0 = .ok (.iload_n 1, 1) := by decide +kernel
theorem dX0_xorWithOneBefore_1 : decode cX0_xorWithOneBefore 1 = .ok (.ifCond .ne 19, 3) := by decide +kernel
theorem dX0_xorWithOneBefore_4 : decode cX0_xorWithOneBefore 4 = .ok (.aload_n 0, 1) := by decide +kernel
theorem dX0_xorWithOneBefore_5 : decode cX0_xorWithOneBefore 5 = .ok (.getfield 19, 3) := by decide +kernel
theorem dX0_xorWithOneBefore_8 : decode cX0_xorWithOneBefore 8 = .ok (.iconst 0, 1) := by decide +kernel
theorem dX0_xorWithOneBefore_9 : decode cX0_xorWithOneBefore 9 = .ok (.aload_n 0, 1) := by decide +kernel
theorem dX0_xorWithOneBefore_10 : decode cX0_xorWithOneBefore 10 = .ok (.getfield 16, 3) := by decide +kernel
theorem dX0_xorWithOneBefore_13 : decode cX0_xorWithOneBefore 13 = .ok (.iconst 0, 1) := by decide +kernel
theorem dX0_xorWithOneBefore_14 : decode cX0_xorWithOneBefore 14 = .ok (.invokestatic 117, 3) := by decide +kernel
theorem dX0_xorWithOneBefore_17 : decode cX0_xorWithOneBefore 17 = .ok (.goto 18, 3) := by decide +kernel
theorem dX0_xorWithOneBefore_20 : decode cX0_xorWithOneBefore 20 = .ok (.aload_n 0, 1) := by decide +kernel
theorem dX0_xorWithOneBefore_21 : decode cX0_xorWithOneBefore 21 = .ok (.getfield 19, 3) := by decide +kernel
theorem dX0_xorWithOneBefore_24 : decode cX0_xorWithOneBefore 24 = .ok (.iload_n 1, 1) := by decide +kernel
theorem dX0_xorWithOneBefore_25 : decode cX0_xorWithOneBefore 25 = .ok (.aload_n 0, 1) := by decide +kernel
theorem dX0_xorWithOneBefore_26 : decode cX0_xorWithOneBefore 26 = .ok (.getfield 19, 3) := by decide +kernel
theorem dX0_xorWithOneBefore_29 : decode cX0_xorWithOneBefore 29 = .ok (.iload_n 1, 1) := by decide +kernel
theorem dX0_xorWithOneBefore_30 : decode cX0_xorWithOneBefore 30 = .ok (.iconst 4, 1) := by decide +kernel
theorem dX0_xorWithOneBefore_31 : decode cX0_xorWithOneBefore 31 = .ok (.isub, 1) := by decide +kernel
theorem dX0_xorWithOneBefore_32 : decode cX0_xorWithOneBefore 32 = .ok (.invokestatic 117, 3) := by decide +kernel
theorem dX0_xorWithOneBefore_35 : decode cX0_xorWithOneBefore 35 = .ok (.return_, 1) := by decide +kernel
theorem dX0_maskByCounter_0 : decode cX0_maskByCounter 0 = .ok (.aload_n 0, 1) := by decide +kernel
theorem dX0_maskByCounter_1 : decode cX0_maskByCounter 1 = .ok (.getfield 16, 3) := by decide +kernel
theorem dX0_maskByCounter_4 : decode cX0_maskByCounter 4 = .ok (.iconst 0, 1) := by decide +kernel
theorem dX0_maskByCounter_5 : decode cX0_maskByCounter 5 = .ok (.aload_n 0, 1) := by decide +kernel
theorem dX0_maskByCounter_6 : decode cX0_maskByCounter 6 = .ok (.getfield 22, 3) := by decide +kernel
theorem dX0_maskByCounter_9 : decode cX0_maskByCounter 9 = .ok (.iconst 0, 1) := by decide +kernel
theorem dX0_maskByCounter_10 : decode cX0_maskByCounter 10 = .ok (.iconst 4, 1) := by decide +kernel
theorem dX0_maskByCounter_11 : decode cX0_maskByCounter 11 = .ok (.invokestatic 145, 3) := by decide +kernel
theorem dX0_maskByCounter_14 : decode cX0_maskByCounter 14 = .ok (.iconst 0, 1) := by decide +kernel
theorem dX0_maskByCounter_15 : decode cX0_maskByCounter 15 = .ok (.istore_n 1, 1) := by decide +kernel
theorem dX0_maskByCounter_16 : decode cX0_maskByCounter 16 = .ok (.iload_n 1, 1) := by decide +kernel
theorem dX0_maskByCounter_17 : decode cX0_maskByCounter 17 = .ok (.aload_n 0, 1) := by decide +kernel
theorem dX0_maskByCounter_18 : decode cX0_maskByCounter 18 = .ok (.getfield 36, 3) := by decide +kernel
theorem dX0_maskByCounter_21 : decode cX0_maskByCounter 21 = .ok (.if_icmp .ge 49, 3) := by decide +kernel
theorem dX0_maskByCounter_24 : decode cX0_maskByCounter 24 = .ok (.aload_n 0, 1) := by decide +kernel
end
section
theorem dX0_maskByCounter_25 : decode cX0_maskByCounter 25 = .ok (.getfield 22, 3) := by decide +kernel
theorem dX0_maskByCounter_28 : decode cX0_maskByCounter 28 = .ok (.iconst 0, 1) := by decide +kernel
theorem dX0_maskByCounter_29 : decode cX0_maskByCounter 29 = .ok (.aload_n 0, 1) := by decide +kernel
theorem dX0_maskByCounter_30 : decode cX0_maskByCounter 30 = .ok (.getfield 25, 3) := by decide +kernel
theorem dX0_maskByCounter_33 : decode cX0_maskByCounter 33 = .ok (.iconst 0, 1) := by decide +kernel
theorem dX0_maskByCounter_34 : decode cX0_maskByCounter 34 = .ok (.iconst 4, 1) := by decide +kernel
theorem dX0_maskByCounter_35 : decode cX0_maskByCounter 35 = .ok (.invokestatic 145, 3) := by decide +kernel
theorem dX0_maskByCounter_38 : decode cX0_maskByCounter 38 = .ok (.aload_n 0, 1) := by decide +kernel
theorem dX0_maskByCounter_39 : decode cX0_maskByCounter 39 = .ok (.aload_n 0, 1) := by decide +kernel
theorem dX0_maskByCounter_40 : decode cX0_maskByCounter 40 = .ok (.getfield 25, 3) := by decide +kernel
theorem dX0_maskByCounter_43 : decode cX0_maskByCounter 43 = .ok (.iconst 0, 1) := by decide +kernel
theorem dX0_maskByCounter_44 : decode cX0_maskByCounter 44 = .ok (.invokevirtual 121, 3) := by decide +kernel
theorem dX0_maskByCounter_47 : decode cX0_maskByCounter 47 = .ok (.aload_n 0, 1) := by decide +kernel
theorem dX0_maskByCounter_48 : decode cX0_maskByCounter 48 = .ok (.getfield 19, 3) := by decide +kernel
theorem dX0_maskByCounter_51 : decode cX0_maskByCounter 51 = .ok (.iload_n 1, 1) := by decide +kernel
theorem dX0_maskByCounter_52 : decode cX0_maskByCounter 52 = .ok (.aload_n 0, 1) := by decide +kernel
theorem dX0_maskByCounter_53 : decode cX0_maskByCounter 53 = .ok (.getfield 25, 3) := by decide +kernel
theorem dX0_maskByCounter_56 : decode cX0_maskByCounter 56 = .ok (.iconst 0, 1) := by decide +kernel
theorem dX0_maskByCounter_57 : decode cX0_maskByCounter 57 = .ok (.invokestatic 117, 3) := by decide +kernel
theorem dX0_maskByCounter_60 : decode cX0_maskByCounter 60 = .ok (.aload_n 0, 1) := by decide +kernel
theorem dX0_maskByCounter_61 : decode cX0_maskByCounter 61 = .ok (.invokevirtual 151, 3) := by decide +kernel
theorem dX0_maskByCounter_64 : decode cX0_maskByCounter 64 = .ok (.iinc 1 4, 3) := by decide +kernel
theorem dX0_maskByCounter_67 : decode cX0_maskByCounter 67 = .ok (.goto (-51), 3) := by decide +kernel
theorem dX0_maskByCounter_70 : decode cX0_maskByCounter 70 = .ok (.return_, 1) := by decide +kernel
theorem dX0_countOneMore_0 : decode cX0_countOneMore 0 = .ok (.iconst 0, 1) := by decide +kernel
theorem dX0_countOneMore_1 : decode cX0_countOneMore 1 = .ok (.istore_n 1, 1) := by decide +kernel
theorem dX0_countOneMore_2 : decode cX0_countOneMore 2 = .ok (.iload_n 1, 1) := by decide +kernel
theorem dX0_countOneMore_3 : decode cX0_countOneMore 3 = .ok (.iconst 4, 1) := by decide +kernel
theorem dX0_countOneMore_4 : decode cX0_countOneMore 4 = .ok (.if_icmp .ge 31, 3) := by decide +kernel
theorem dX0_countOneMore_7 : decode cX0_countOneMore 7 = .ok (.aload_n 0, 1) := by decide +kernel
theorem dX0_countOneMore_8 : decode cX0_countOneMore 8 = .ok (.getfield 22, 3) := by decide +kernel
theorem dX0_countOneMore_11 : decode cX0_countOneMore 11 = .ok (.iload_n 1, 1) := by decide +kernel
theorem dX0_countOneMore_12 : decode cX0_countOneMore 12 = .ok (.dup2, 1) := by decide +kernel
theorem dX0_countOneMore_13 : decode cX0_countOneMore 13 = .ok (.iaload, 1) := by decide +kernel
theorem dX0_countOneMore_14 : decode cX0_countOneMore 14 = .ok (.iconst 1, 1) := by decide +kernel
theorem dX0_countOneMore_15 : decode cX0_countOneMore 15 = .ok (.iadd, 1) := by decide +kernel
theorem dX0_countOneMore_16 : decode cX0_countOneMore 16 = .ok (.iastore, 1) := by decide +kernel
theorem dX0_countOneMore_17 : decode cX0_countOneMore 17 = .ok (.aload_n 0, 1) := by decide +kernel
theorem dX0_countOneMore_18 : decode cX0_countOneMore 18 = .ok (.getfield 22, 3) := by decide +kernel
theorem dX0_countOneMore_21 : decode cX0_countOneMore 21 = .ok (.iload_n 1, 1) := by decide +kernel
theorem dX0_countOneMore_22 : decode cX0_countOneMore 22 = .ok (.iaload, 1) := by decide +kernel
theorem dX0_countOneMore_23 : decode cX0_countOneMore 23 = .ok (.ifCond .eq 6, 3) := by decide +kernel
theorem dX0_countOneMore_26 : decode cX0_countOneMore 26 = .ok (.goto 9, 3) := by decide +kernel
theorem dX0_countOneMore_29 : decode cX0_countOneMore 29 = .ok (.iinc 1 1, 3) := by decide +kernel
theorem dX0_countOneMore_32 : decode cX0_countOneMore 32 = .ok (.goto (-30), 3) := by decide +kernel
theorem dX0_countOneMore_35 : decode cX0_countOneMore 35 = .ok (.return_, 1) := by decide +kernel
theorem dX0_encipher_0 : decode cX0_encipher 0 = .ok (.iconst 0, 1) := by decide +kernel
theorem dX0_encipher_1 : decode cX0_encipher 1 = .ok (.istore_n 3, 1) := by decide +kernel
theorem dX0_encipher_2 : decode cX0_encipher 2 = .ok (.iload_n 3, 1) := by decide +kernel
theorem dX0_encipher_3 : decode cX0_encipher 3 = .ok (.bipush 32, 2) := by decide +kernel
theorem dX0_encipher_5 : decode cX0_encipher 5 = .ok (.if_icmp .ge 43, 3) := by decide +kernel
theorem dX0_encipher_8 : decode cX0_encipher 8 = .ok (.aload_n 1, 1) := by decide +kernel
theorem dX0_encipher_9 : decode cX0_encipher 9 = .ok (.iload_n 2, 1) := by decide +kernel
theorem dX0_encipher_10 : decode cX0_encipher 10 = .ok (.aload_n 0, 1) := by decide +kernel
theorem dX0_encipher_11 : decode cX0_encipher 11 = .ok (.getfield 13, 3) := by decide +kernel
theorem dX0_encipher_14 : decode cX0_encipher 14 = .ok (.iload_n 3, 1) := by decide +kernel
theorem dX0_encipher_15 : decode cX0_encipher 15 = .ok (.invokestatic 58, 3) := by decide +kernel
theorem dX0_encipher_18 : decode cX0_encipher 18 = .ok (.invokestatic 117, 3) := by decide +kernel
theorem dX0_encipher_21 : decode cX0_encipher 21 = .ok (.aload_n 1, 1) := by decide +kernel
theorem dX0_encipher_22 : decode cX0_encipher 22 = .ok (.iload_n 2, 1) := by decide +kernel
theorem dX0_encipher_23 : decode cX0_encipher 23 = .ok (.iload_n 3, 1) := by decide +kernel
theorem dX0_encipher_24 : decode cX0_encipher 24 = .ok (.bipush 8, 2) := by decide +kernel
theorem dX0_encipher_26 : decode cX0_encipher 26 = .ok (.irem, 1) := by decide +kernel
theorem dX0_encipher_27 : decode cX0_encipher 27 = .ok (.iconst 0, 1) := by decide +kernel
theorem dX0_encipher_28 : decode cX0_encipher 28 = .ok (.invokestatic 67, 3) := by decide +kernel
theorem dX0_encipher_31 : decode cX0_encipher 31 = .ok (.iload_n 3, 1) := by decide +kernel
theorem dX0_encipher_32 : decode cX0_encipher 32 = .ok (.bipush 31, 2) := by decide +kernel
theorem dX0_encipher_34 : decode cX0_encipher 34 = .ok (.if_icmp .ge 8, 3) := by decide +kernel
theorem dX0_encipher_37 : decode cX0_encipher 37 = .ok (.aload_n 1, 1) := by decide +kernel
theorem dX0_encipher_38 : decode cX0_encipher 38 = .ok (.iload_n 2, 1) := by decide +kernel
theorem dX0_encipher_39 : decode cX0_encipher 39 = .ok (.invokestatic 154, 3) := by decide +kernel
theorem dX0_encipher_42 : decode cX0_encipher 42 = .ok (.iinc 3 1, 3) := by decide +kernel
theorem dX0_encipher_45 : decode cX0_encipher 45 = .ok (.goto (-43), 3) := by decide +kernel
theorem dX0_encipher_48 : decode cX0_encipher 48 = .ok (.aload_n 1, 1) := by decide +kernel
theorem dX0_encipher_49 : decode cX0_encipher 49 = .ok (.iload_n 2, 1) := by decide +kernel
theorem dX0_encipher_50 : decode cX0_encipher 50 = .ok (.aload_n 0, 1) := by decide +kernel
theorem dX0_encipher_51 : decode cX0_encipher 51 = .ok (.getfield 13, 3) := by decide +kernel
theorem dX0_encipher_54 : decode cX0_encipher 54 = .ok (.bipush 32, 2) := by decide +kernel
theorem dX0_encipher_56 : decode cX0_encipher 56 = .ok (.invokestatic 58, 3) := by decide +kernel
theorem dX0_encipher_59 : decode cX0_encipher 59 = .ok (.invokestatic 117, 3) := by decide +kernel
theorem dX0_encipher_62 : decode cX0_encipher 62 = .ok (.return_, 1) := by decide +kernel
theorem dX0_decipher_0 : decode cX0_decipher 0 = .ok (.aload_n 1, 1) := by decide +kernel
theorem dX0_decipher_1 : decode cX0_decipher 1 = .ok (.iload_n 2, 1) := by decide +kernel
theorem dX0_decipher_2 : decode cX0_decipher 2 = .ok (.aload_n 0, 1) := by decide +kernel
theorem dX0_decipher_3 : decode cX0_decipher 3 = .ok (.getfield 13, 3) := by decide +kernel
theorem dX0_decipher_6 : decode cX0_decipher 6 = .ok (.bipush 32, 2) := by decide +kernel
theorem dX0_decipher_8 : decode cX0_decipher 8 = .ok (.invokestatic 58, 3) := by decide +kernel
theorem dX0_decipher_11 : decode cX0_decipher 11 = .ok (.invokestatic 117, 3) := by decide +kernel
theorem dX0_decipher_14 : decode cX0_decipher 14 = .ok (.bipush 31, 2) := by decide +kernel
theorem dX0_decipher_16 : decode cX0_decipher 16 = .ok (.istore_n 3, 1) := by decide +kernel
theorem dX0_decipher_17 : decode cX0_decipher 17 = .ok (.iload_n 3, 1) := by decide +kernel
theorem dX0_decipher_18 : decode cX0_decipher 18 = .ok (.ifCond .lt 43, 3) := by decide +kernel
theorem dX0_decipher_21 : decode cX0_decipher 21 = .ok (.iload_n 3, 1) := by decide +kernel
theorem dX0_decipher_22 : decode cX0_decipher 22 = .ok (.bipush 31, 2) := by decide +kernel
theorem dX0_decipher_24 : decode cX0_decipher 24 = .ok (.if_icmp .ge 8, 3) := by decide +kernel
theorem dX0_decipher_27 : decode cX0_decipher 27 = .ok (.aload_n 1, 1) := by decide +kernel
theorem dX0_decipher_28 : decode cX0_decipher 28 = .ok (.iload_n 2, 1) := by decide +kernel
theorem dX0_decipher_29 : decode cX0_decipher 29 = .ok (.invokestatic 157, 3) := by decide +kernel
theorem dX0_decipher_32 : decode cX0_decipher 32 = .ok (.aload_n 1, 1) := by decide +kernel
theorem dX0_decipher_33 : decode cX0_decipher 33 = .ok (.iload_n 2, 1) := by decide +kernel
theorem dX0_decipher_34 : decode cX0_decipher 34 = .ok (.iload_n 3, 1) := by decide +kernel
theorem dX0_decipher_35 : decode cX0_decipher 35 = .ok (.bipush 8, 2) := by decide +kernel
theorem dX0_decipher_37 : decode cX0_decipher 37 = .ok (.irem, 1) := by decide +kernel
theorem dX0_decipher_38 : decode cX0_decipher 38 = .ok (.iconst 1, 1) := by decide +kernel
theorem dX0_decipher_39 : decode cX0_decipher 39 = .ok (.invokestatic 67, 3) := by decide +kernel
theorem dX0_decipher_42 : decode cX0_decipher 42 = .ok (.aload_n 1, 1) := by decide +kernel
theorem dX0_decipher_43 : decode cX0_decipher 43 = .ok (.iload_n 2, 1) := by decide +kernel
theorem dX0_decipher_44 : decode cX0_decipher 44 = .ok (.aload_n 0, 1) := by decide +kernel
theorem dX0_decipher_45 : decode cX0_decipher 45 = .ok (.getfield 13, 3) := by decide +kernel
theorem dX0_decipher_48 : decode cX0_decipher 48 = .ok (.iload_n 3, 1) := by decide +kernel
theorem dX0_decipher_49 : decode cX0_decipher 49 = .ok (.invokestatic 58, 3) := by decide +kernel
theorem dX0_decipher_52 : decode cX0_decipher 52 = .ok (.invokestatic 117, 3) := by decide +kernel
theorem dX0_decipher_55 : decode cX0_decipher 55 = .ok (.iinc 3 (-1), 3) := by decide +kernel
theorem dX0_decipher_58 : decode cX0_decipher 58 = .ok (.goto (-41), 3) := by decide +kernel
theorem dX0_decipher_61 : decode cX0_decipher 61 = .ok (.return_, 1) := by decide +kernel
theorem dX0_xorBlock_0 : decode cX0_xorBlock 0 = .ok (.iconst 0, 1) := by decide +kernel
theorem dX0_xorBlock_1 : decode cX0_xorBlock 1 = .ok (.istore 4, 2) := by decide +kernel
theorem dX0_xorBlock_3 : decode cX0_xorBlock 3 = .ok (.iload 4, 2) := by decide +kernel
theorem dX0_xorBlock_5 : decode cX0_xorBlock 5 = .ok (.iconst 4, 1) := by decide +kernel
theorem dX0_xorBlock_6 : decode cX0_xorBlock 6 = .ok (.if_icmp .ge 24, 3) := by decide +kernel
theorem dX0_xorBlock_9 : decode cX0_xorBlock 9 = .ok (.aload_n 0, 1) := by decide +kernel
theorem dX0_xorBlock_10 : decode cX0_xorBlock 10 = .ok (.iload_n 1, 1) := by decide +kernel
theorem dX0_xorBlock_11 : decode cX0_xorBlock 11 = .ok (.iload 4, 2) := by decide +kernel
theorem dX0_xorBlock_13 : decode cX0_xorBlock 13 = .ok (.iadd, 1) := by decide +kernel
theorem dX0_xorBlock_14 : decode cX0_xorBlock 14 = .ok (.dup2, 1) := by decide +kernel
theorem dX0_xorBlock_15 : decode cX0_xorBlock 15 = .ok (.iaload, 1) := by decide +kernel
theorem dX0_xorBlock_16 : decode cX0_xorBlock 16 = .ok (.aload_n 2, 1) := by decide +kernel
theorem dX0_xorBlock_17 : decode cX0_xorBlock 17 = .ok (.iload_n 3, 1) := by decide +kernel
theorem dX0_xorBlock_18 : decode cX0_xorBlock 18 = .ok (.iload 4, 2) := by decide +kernel
theorem dX0_xorBlock_20 : decode cX0_xorBlock 20 = .ok (.iadd, 1) := by decide +kernel
theorem dX0_xorBlock_21 : decode cX0_xorBlock 21 = .ok (.iaload, 1) := by decide +kernel
theorem dX0_xorBlock_22 : decode cX0_xorBlock 22 = .ok (.ixor, 1) := by decide +kernel
theorem dX0_xorBlock_23 : decode cX0_xorBlock 23 = .ok (.iastore, 1) := by decide +kernel
theorem dX0_xorBlock_24 : decode cX0_xorBlock 24 = .ok (.iinc 4 1, 3) := by decide +kernel
theorem dX0_xorBlock_27 : decode cX0_xorBlock 27 = .ok (.goto (-24), 3) := by decide +kernel
theorem dX0_xorBlock_30 : decode cX0_xorBlock 30 = .ok (.return_, 1) := by decide +kernel
theorem dX0_passBox_0 : decode cX0_passBox 0 = .ok (.aload_n 0, 1) := by decide +kernel
theorem dX0_passBox_1 : decode cX0_passBox 1 = .ok (.iload_n 1, 1) := by decide +kernel
theorem dX0_passBox_2 : decode cX0_passBox 2 = .ok (.iaload, 1) := by decide +kernel
theorem dX0_passBox_3 : decode cX0_passBox 3 = .ok (.istore 4, 2) := by decide +kernel
theorem dX0_passBox_5 : decode cX0_passBox 5 = .ok (.aload_n 0, 1) := by decide +kernel
theorem dX0_passBox_6 : decode cX0_passBox 6 = .ok (.iload_n 1, 1) := by decide +kernel
theorem dX0_passBox_7 : decode cX0_passBox 7 = .ok (.iconst 1, 1) := by decide +kernel
theorem dX0_passBox_8 : decode cX0_passBox 8 = .ok (.iadd, 1) := by decide +kernel
theorem dX0_passBox_9 : decode cX0_passBox 9 = .ok (.iaload, 1) := by decide +kernel
theorem dX0_passBox_10 : decode cX0_passBox 10 = .ok (.istore 5, 2) := by decide +kernel
theorem dX0_passBox_12 : decode cX0_passBox 12 = .ok (.aload_n 0, 1) := by decide +kernel
theorem dX0_passBox_13 : decode cX0_passBox 13 = .ok (.iload_n 1, 1) := by decide +kernel
theorem dX0_passBox_14 : decode cX0_passBox 14 = .ok (.iconst 2, 1) := by decide +kernel
theorem dX0_passBox_15 : decode cX0_passBox 15 = .ok (.iadd, 1) := by decide +kernel
theorem dX0_passBox_16 : decode cX0_passBox 16 = .ok (.iaload, 1) := by decide +kernel
theorem dX0_passBox_17 : decode cX0_passBox 17 = .ok (.istore 6, 2) := by decide +kernel
theorem dX0_passBox_19 : decode cX0_passBox 19 = .ok (.aload_n 0, 1) := by decide +kernel
theorem dX0_passBox_20 : decode cX0_passBox 20 = .ok (.iload_n 1, 1) := by decide +kernel
theorem dX0_passBox_21 : decode cX0_passBox 21 = .ok (.iconst 3, 1) := by decide +kernel
theorem dX0_passBox_22 : decode cX0_passBox 22 = .ok (.iadd, 1) := by decide +kernel
theorem dX0_passBox_23 : decode cX0_passBox 23 = .ok (.iaload, 1) := by decide +kernel
theorem dX0_passBox_24 : decode cX0_passBox 24 = .ok (.istore 7, 2) := by decide +kernel
theorem dX0_passBox_26 : decode cX0_passBox 26 = .ok (.iconst 0, 1) := by decide +kernel
theorem dX0_passBox_27 : decode cX0_passBox 27 = .ok (.istore 8, 2) := by decide +kernel
theorem dX0_passBox_29 : decode cX0_passBox 29 = .ok (.iconst 0, 1) := by decide +kernel
theorem dX0_passBox_30 : decode cX0_passBox 30 = .ok (.istore 9, 2) := by decide +kernel
theorem dX0_passBox_32 : decode cX0_passBox 32 = .ok (.iconst 0, 1) := by decide +kernel
theorem dX0_passBox_33 : decode cX0_passBox 33 = .ok (.istore 10, 2) := by decide +kernel
theorem dX0_passBox_35 : decode cX0_passBox 35 = .ok (.iconst 0, 1) := by decide +kernel
theorem dX0_passBox_36 : decode cX0_passBox 36 = .ok (.istore 11, 2) := by decide +kernel
theorem dX0_passBox_38 : decode cX0_passBox 38 = .ok (.iconst 0, 1) := by decide +kernel
theorem dX0_passBox_39 : decode cX0_passBox 39 = .ok (.istore 12, 2) := by decide +kernel
theorem dX0_passBox_41 : decode cX0_passBox 41 = .ok (.iload 12, 2) := by decide +kernel
theorem dX0_passBox_43 : decode cX0_passBox 43 = .ok (.bipush 16, 2) := by decide +kernel
theorem dX0_passBox_45 : decode cX0_passBox 45 = .ok (.if_icmp .ge 145, 3) := by decide +kernel
theorem dX0_passBox_48 : decode cX0_passBox 48 = .ok (.getstatic 83, 3) := by decide +kernel
theorem dX0_passBox_51 : decode cX0_passBox 51 = .ok (.iload_n 2, 1) := by decide +kernel
theorem dX0_passBox_52 : decode cX0_passBox 52 = .ok (.bipush 16, 2) := by decide +kernel
theorem dX0_passBox_54 : decode cX0_passBox 54 = .ok (.imul, 1) := by decide +kernel
theorem dX0_passBox_55 : decode cX0_passBox 55 = .ok (.iload 12, 2) := by decide +kernel
theorem dX0_passBox_57 : decode cX0_passBox 57 = .ok (.iadd, 1) := by decide +kernel
theorem dX0_passBox_58 : decode cX0_passBox 58 = .ok (.iaload, 1) := by decide +kernel
theorem dX0_passBox_59 : decode cX0_passBox 59 = .ok (.istore 13, 2) := by decide +kernel
theorem dX0_passBox_61 : decode cX0_passBox 61 = .ok (.iload_n 3, 1) := by decide +kernel
theorem dX0_passBox_62 : decode cX0_passBox 62 = .ok (.ifCond .eq 8, 3) := by decide +kernel
theorem dX0_passBox_65 : decode cX0_passBox 65 = .ok (.iload 13, 2) := by decide +kernel
theorem dX0_passBox_67 : decode cX0_passBox 67 = .ok (.goto 5, 3) := by decide +kernel
theorem dX0_passBox_70 : decode cX0_passBox 70 = .ok (.iload 12, 2) := by decide +kernel
theorem dX0_passBox_72 : decode cX0_passBox 72 = .ok (.istore 14, 2) := by decide +kernel
theorem dX0_passBox_74 : decode cX0_passBox 74 = .ok (.iload_n 3, 1) := by decide +kernel
theorem dX0_passBox_75 : decode cX0_passBox 75 = .ok (.ifCond .eq 8, 3) := by decide +kernel
theorem dX0_passBox_78 : decode cX0_passBox 78 = .ok (.iload 12, 2) := by decide +kernel
theorem dX0_passBox_80 : decode cX0_passBox 80 = .ok (.goto 5, 3) := by decide +kernel
theorem dX0_passBox_83 : decode cX0_passBox 83 = .ok (.iload 13, 2) := by decide +kernel
theorem dX0_passBox_85 : decode cX0_passBox 85 = .ok (.istore 15, 2) := by decide +kernel
theorem dX0_passBox_87 : decode cX0_passBox 87 = .ok (.iload 4, 2) := by decide +kernel
theorem dX0_passBox_89 : decode cX0_passBox 89 = .ok (.iload 14, 2) := by decide +kernel
theorem dX0_passBox_91 : decode cX0_passBox 91 = .ok (.invokestatic 160, 3) := by decide +kernel
theorem dX0_passBox_94 : decode cX0_passBox 94 = .ok (.iload 5, 2) := by decide +kernel
theorem dX0_passBox_96 : decode cX0_passBox 96 = .ok (.iload 14, 2) := by decide +kernel
theorem dX0_passBox_98 : decode cX0_passBox 98 = .ok (.iconst 1, 1) := by decide +kernel
theorem dX0_passBox_99 : decode cX0_passBox 99 = .ok (.ishr, 1) := by decide +kernel
theorem dX0_passBox_100 : decode cX0_passBox 100 = .ok (.invokestatic 160, 3) := by decide +kernel
theorem dX0_passBox_103 : decode cX0_passBox 103 = .ok (.iand, 1) := by decide +kernel
theorem dX0_passBox_104 : decode cX0_passBox 104 = .ok (.iload 6, 2) := by decide +kernel
theorem dX0_passBox_106 : decode cX0_passBox 106 = .ok (.iload 14, 2) := by decide +kernel
theorem dX0_passBox_108 : decode cX0_passBox 108 = .ok (.iconst 2, 1) := by decide +kernel
theorem dX0_passBox_109 : decode cX0_passBox 109 = .ok (.ishr, 1) := by decide +kernel
theorem dX0_passBox_110 : decode cX0_passBox 110 = .ok (.invokestatic 160, 3) := by decide +kernel
theorem dX0_passBox_113 : decode cX0_passBox 113 = .ok (.iand, 1) := by decide +kernel
theorem dX0_passBox_114 : decode cX0_passBox 114 = .ok (.iload 7, 2) := by decide +kernel
theorem dX0_passBox_116 : decode cX0_passBox 116 = .ok (.iload 14, 2) := by decide +kernel
theorem dX0_passBox_118 : decode cX0_passBox 118 = .ok (.iconst 3, 1) := by decide +kernel
theorem dX0_passBox_119 : decode cX0_passBox 119 = .ok (.ishr, 1) := by decide +kernel
theorem dX0_passBox_120 : decode cX0_passBox 120 = .ok (.invokestatic 160, 3) := by decide +kernel
theorem dX0_passBox_123 : decode cX0_passBox 123 = .ok (.iand, 1) := by decide +kernel
theorem dX0_passBox_124 : decode cX0_passBox 124 = .ok (.istore 16, 2) := by decide +kernel
theorem dX0_passBox_126 : decode cX0_passBox 126 = .ok (.iload 8, 2) := by decide +kernel
theorem dX0_passBox_128 : decode cX0_passBox 128 = .ok (.iload 16, 2) := by decide +kernel
theorem dX0_passBox_130 : decode cX0_passBox 130 = .ok (.iload 15, 2) := by decide +kernel
theorem dX0_passBox_132 : decode cX0_passBox 132 = .ok (.invokestatic 163, 3) := by decide +kernel
theorem dX0_passBox_135 : decode cX0_passBox 135 = .ok (.iand, 1) := by decide +kernel
theorem dX0_passBox_136 : decode cX0_passBox 136 = .ok (.ior, 1) := by decide +kernel
theorem dX0_passBox_137 : decode cX0_passBox 137 = .ok (.istore 8, 2) := by decide +kernel
theorem dX0_passBox_139 : decode cX0_passBox 139 = .ok (.iload 9, 2) := by decide +kernel
theorem dX0_passBox_141 : decode cX0_passBox 141 = .ok (.iload 16, 2) := by decide +kernel
theorem dX0_passBox_143 : decode cX0_passBox 143 = .ok (.iload 15, 2) := by decide +kernel
theorem dX0_passBox_145 : decode cX0_passBox 145 = .ok (.iconst 1, 1) := by decide +kernel
theorem dX0_passBox_146 : decode cX0_passBox 146 = .ok (.ishr, 1) := by decide +kernel
theorem dX0_passBox_147 : decode cX0_passBox 147 = .ok (.invokestatic 163, 3) := by decide +kernel
theorem dX0_passBox_150 : decode cX0_passBox 150 = .ok (.iand, 1) := by decide +kernel
theorem dX0_passBox_151 : decode cX0_passBox 151 = .ok (.ior, 1) := by decide +kernel
theorem dX0_passBox_152 : decode cX0_passBox 152 = .ok (.istore 9, 2) := by decide +kernel
theorem dX0_passBox_154 : decode cX0_passBox 154 = .ok (.iload 10, 2) := by decide +kernel
theorem dX0_passBox_156 : decode cX0_passBox 156 = .ok (.iload 16, 2) := by decide +kernel
theorem dX0_passBox_158 : decode cX0_passBox 158 = .ok (.iload 15, 2) := by decide +kernel
theorem dX0_passBox_160 : decode cX0_passBox 160 = .ok (.iconst 2, 1) := by decide +kernel
theorem dX0_passBox_161 : decode cX0_passBox 161 = .ok (.ishr, 1) := by decide +kernel
theorem dX0_passBox_162 : decode cX0_passBox 162 = .ok (.invokestatic 163, 3) := by decide +kernel
theorem dX0_passBox_165 : decode cX0_passBox 165 = .ok (.iand, 1) := by decide +kernel
theorem dX0_passBox_166 : decode cX0_passBox 166 = .ok (.ior, 1) := by decide +kernel
theorem dX0_passBox_167 : decode cX0_passBox 167 = .ok (.istore 10, 2) := by decide +kernel
theorem dX0_passBox_169 : decode cX0_passBox 169 = .ok (.iload 11, 2) := by decide +kernel
theorem dX0_passBox_171 : decode cX0_passBox 171 = .ok (.iload 16, 2) := by decide +kernel
theorem dX0_passBox_173 : decode cX0_passBox 173 = .ok (.iload 15, 2) := by decide +kernel
theorem dX0_passBox_175 : decode cX0_passBox 175 = .ok (.iconst 3, 1) := by decide +kernel
theorem dX0_passBox_176 : decode cX0_passBox 176 = .ok (.ishr, 1) := by decide +kernel
theorem dX0_passBox_177 : decode cX0_passBox 177 = .ok (.invokestatic 163, 3) := by decide +kernel
theorem dX0_passBox_180 : decode cX0_passBox 180 = .ok (.iand, 1) := by decide +kernel
theorem dX0_passBox_181 : decode cX0_passBox 181 = .ok (.ior, 1) := by decide +kernel
theorem dX0_passBox_182 : decode cX0_passBox 182 = .ok (.istore 11, 2) := by decide +kernel
theorem dX0_passBox_184 : decode cX0_passBox 184 = .ok (.iinc 12 1, 3) := by decide +kernel
theorem dX0_passBox_187 : decode cX0_passBox 187 = .ok (.goto (-146), 3) := by decide +kernel
theorem dX0_passBox_190 : decode cX0_passBox 190 = .ok (.aload_n 0, 1) := by decide +kernel
theorem dX0_passBox_191 : decode cX0_passBox 191 = .ok (.iload_n 1, 1) := by decide +kernel
theorem dX0_passBox_192 : decode cX0_passBox 192 = .ok (.iload 8, 2) := by decide +kernel
theorem dX0_passBox_194 : decode cX0_passBox 194 = .ok (.iastore, 1) := by decide +kernel
theorem dX0_passBox_195 : decode cX0_passBox 195 = .ok (.aload_n 0, 1) := by decide +kernel
theorem dX0_passBox_196 : decode cX0_passBox 196 = .ok (.iload_n 1, 1) := by decide +kernel
theorem dX0_passBox_197 : decode cX0_passBox 197 = .ok (.iconst 1, 1) := by decide +kernel
theorem dX0_passBox_198 : decode cX0_passBox 198 = .ok (.iadd, 1) := by decide +kernel
theorem dX0_passBox_199 : decode cX0_passBox 199 = .ok (.iload 9, 2) := by decide +kernel
theorem dX0_passBox_201 : decode cX0_passBox 201 = .ok (.iastore, 1) := by decide +kernel
theorem dX0_passBox_202 : decode cX0_passBox 202 = .ok (.aload_n 0, 1) := by decide +kernel
theorem dX0_passBox_203 : decode cX0_passBox 203 = .ok (.iload_n 1, 1) := by decide +kernel
theorem dX0_passBox_204 : decode cX0_passBox 204 = .ok (.iconst 2, 1) := by decide +kernel
theorem dX0_passBox_205 : decode cX0_passBox 205 = .ok (.iadd, 1) := by decide +kernel
theorem dX0_passBox_206 : decode cX0_passBox 206 = .ok (.iload 10, 2) := by decide +kernel
theorem dX0_passBox_208 : decode cX0_passBox 208 = .ok (.iastore, 1) := by decide +kernel
theorem dX0_passBox_209 : decode cX0_passBox 209 = .ok (.aload_n 0, 1) := by decide +kernel
theorem dX0_passBox_210 : decode cX0_passBox 210 = .ok (.iload_n 1, 1) := by decide +kernel
theorem dX0_passBox_211 : decode cX0_passBox 211 = .ok (.iconst 3, 1) := by decide +kernel
theorem dX0_passBox_212 : decode cX0_passBox 212 = .ok (.iadd, 1) := by decide +kernel
theorem dX0_passBox_213 : decode cX0_passBox 213 = .ok (.iload 11, 2) := by decide +kernel
theorem dX0_passBox_215 : decode cX0_passBox 215 = .ok (.iastore, 1) := by decide +kernel
theorem dX0_passBox_216 : decode cX0_passBox 216 = .ok (.return_, 1) := by decide +kernel
theorem dX0_placesWith_0 : decode cX0_placesWith 0 = .ok (.iload_n 0, 1) := by decide +kernel
theorem dX0_placesWith_1 : decode cX0_placesWith 1 = .ok (.iload_n 1, 1) := by decide +kernel
theorem dX0_placesWith_2 : decode cX0_placesWith 2 = .ok (.invokestatic 163, 3) := by decide +kernel
theorem dX0_placesWith_5 : decode cX0_placesWith 5 = .ok (.ixor, 1) := by decide +kernel
theorem dX0_placesWith_6 : decode cX0_placesWith 6 = .ok (.iconst (-1), 1) := by decide +kernel
theorem dX0_placesWith_7 : decode cX0_placesWith 7 = .ok (.ixor, 1) := by decide +kernel
theorem dX0_placesWith_8 : decode cX0_placesWith 8 = .ok (.ireturn, 1) := by decide +kernel
theorem dX0_lowestBitEverywhere_0 : decode cX0_lowestBitEverywhere 0 = .ok (.iload_n 0, 1) := by decide +kernel
theorem dX0_lowestBitEverywhere_1 : decode cX0_lowestBitEverywhere 1 = .ok (.iconst 1, 1) := by decide +kernel
theorem dX0_lowestBitEverywhere_2 : decode cX0_lowestBitEverywhere 2 = .ok (.iand, 1) := by decide +kernel
theorem dX0_lowestBitEverywhere_3 : decode cX0_lowestBitEverywhere 3 = .ok (.ineg, 1) := by decide +kernel
theorem dX0_lowestBitEverywhere_4 : decode cX0_lowestBitEverywhere 4 = .ok (.ireturn, 1) := by decide +kernel
theorem dX0_mix_0 : decode cX0_mix 0 = .ok (.aload_n 0, 1) := by decide +kernel
theorem dX0_mix_1 : decode cX0_mix 1 = .ok (.iload_n 1, 1) := by decide +kernel
theorem dX0_mix_2 : decode cX0_mix 2 = .ok (.iaload, 1) := by decide +kernel
theorem dX0_mix_3 : decode cX0_mix 3 = .ok (.bipush 13, 2) := by decide +kernel
theorem dX0_mix_5 : decode cX0_mix 5 = .ok (.invokestatic 133, 3) := by decide +kernel
theorem dX0_mix_8 : decode cX0_mix 8 = .ok (.istore_n 2, 1) := by decide +kernel
theorem dX0_mix_9 : decode cX0_mix 9 = .ok (.aload_n 0, 1) := by decide +kernel
theorem dX0_mix_10 : decode cX0_mix 10 = .ok (.iload_n 1, 1) := by decide +kernel
theorem dX0_mix_11 : decode cX0_mix 11 = .ok (.iconst 2, 1) := by decide +kernel
theorem dX0_mix_12 : decode cX0_mix 12 = .ok (.iadd, 1) := by decide +kernel
theorem dX0_mix_13 : decode cX0_mix 13 = .ok (.iaload, 1) := by decide +kernel
theorem dX0_mix_14 : decode cX0_mix 14 = .ok (.iconst 3, 1) := by decide +kernel
theorem dX0_mix_15 : decode cX0_mix 15 = .ok (.invokestatic 133, 3) := by decide +kernel
theorem dX0_mix_18 : decode cX0_mix 18 = .ok (.istore_n 3, 1) := by decide +kernel
theorem dX0_mix_19 : decode cX0_mix 19 = .ok (.aload_n 0, 1) := by decide +kernel
theorem dX0_mix_20 : decode cX0_mix 20 = .ok (.iload_n 1, 1) := by decide +kernel
theorem dX0_mix_21 : decode cX0_mix 21 = .ok (.iconst 1, 1) := by decide +kernel
theorem dX0_mix_22 : decode cX0_mix 22 = .ok (.iadd, 1) := by decide +kernel
theorem dX0_mix_23 : decode cX0_mix 23 = .ok (.iaload, 1) := by decide +kernel
theorem dX0_mix_24 : decode cX0_mix 24 = .ok (.iload_n 2, 1) := by decide +kernel
theorem dX0_mix_25 : decode cX0_mix 25 = .ok (.ixor, 1) := by decide +kernel
theorem dX0_mix_26 : decode cX0_mix 26 = .ok (.iload_n 3, 1) := by decide +kernel
theorem dX0_mix_27 : decode cX0_mix 27 = .ok (.ixor, 1) := by decide +kernel
theorem dX0_mix_28 : decode cX0_mix 28 = .ok (.iconst 1, 1) := by decide +kernel
theorem dX0_mix_29 : decode cX0_mix 29 = .ok (.invokestatic 133, 3) := by decide +kernel
theorem dX0_mix_32 : decode cX0_mix 32 = .ok (.istore 4, 2) := by decide +kernel
theorem dX0_mix_34 : decode cX0_mix 34 = .ok (.aload_n 0, 1) := by decide +kernel
theorem dX0_mix_35 : decode cX0_mix 35 = .ok (.iload_n 1, 1) := by decide +kernel
theorem dX0_mix_36 : decode cX0_mix 36 = .ok (.iconst 3, 1) := by decide +kernel
theorem dX0_mix_37 : decode cX0_mix 37 = .ok (.iadd, 1) := by decide +kernel
theorem dX0_mix_38 : decode cX0_mix 38 = .ok (.iaload, 1) := by decide +kernel
theorem dX0_mix_39 : decode cX0_mix 39 = .ok (.iload_n 3, 1) := by decide +kernel
theorem dX0_mix_40 : decode cX0_mix 40 = .ok (.ixor, 1) := by decide +kernel
theorem dX0_mix_41 : decode cX0_mix 41 = .ok (.iload_n 2, 1) := by decide +kernel
theorem dX0_mix_42 : decode cX0_mix 42 = .ok (.iconst 3, 1) := by decide +kernel
theorem dX0_mix_43 : decode cX0_mix 43 = .ok (.ishl, 1) := by decide +kernel
theorem dX0_mix_44 : decode cX0_mix 44 = .ok (.ixor, 1) := by decide +kernel
theorem dX0_mix_45 : decode cX0_mix 45 = .ok (.bipush 7, 2) := by decide +kernel
theorem dX0_mix_47 : decode cX0_mix 47 = .ok (.invokestatic 133, 3) := by decide +kernel
theorem dX0_mix_50 : decode cX0_mix 50 = .ok (.istore 5, 2) := by decide +kernel
theorem dX0_mix_52 : decode cX0_mix 52 = .ok (.iload_n 2, 1) := by decide +kernel
theorem dX0_mix_53 : decode cX0_mix 53 = .ok (.iload 4, 2) := by decide +kernel
theorem dX0_mix_55 : decode cX0_mix 55 = .ok (.ixor, 1) := by decide +kernel
theorem dX0_mix_56 : decode cX0_mix 56 = .ok (.iload 5, 2) := by decide +kernel
theorem dX0_mix_58 : decode cX0_mix 58 = .ok (.ixor, 1) := by decide +kernel
theorem dX0_mix_59 : decode cX0_mix 59 = .ok (.istore_n 2, 1) := by decide +kernel
theorem dX0_mix_60 : decode cX0_mix 60 = .ok (.iload_n 3, 1) := by decide +kernel
theorem dX0_mix_61 : decode cX0_mix 61 = .ok (.iload 5, 2) := by decide +kernel
theorem dX0_mix_63 : decode cX0_mix 63 = .ok (.ixor, 1) := by decide +kernel
theorem dX0_mix_64 : decode cX0_mix 64 = .ok (.iload 4, 2) := by decide +kernel
theorem dX0_mix_66 : decode cX0_mix 66 = .ok (.bipush 7, 2) := by decide +kernel
theorem dX0_mix_68 : decode cX0_mix 68 = .ok (.ishl, 1) := by decide +kernel
theorem dX0_mix_69 : decode cX0_mix 69 = .ok (.ixor, 1) := by decide +kernel
theorem dX0_mix_70 : decode cX0_mix 70 = .ok (.istore_n 3, 1) := by decide +kernel
theorem dX0_mix_71 : decode cX0_mix 71 = .ok (.aload_n 0, 1) := by decide +kernel
theorem dX0_mix_72 : decode cX0_mix 72 = .ok (.iload_n 1, 1) := by decide +kernel
theorem dX0_mix_73 : decode cX0_mix 73 = .ok (.iload_n 2, 1) := by decide +kernel
theorem dX0_mix_74 : decode cX0_mix 74 = .ok (.iconst 5, 1) := by decide +kernel
theorem dX0_mix_75 : decode cX0_mix 75 = .ok (.invokestatic 133, 3) := by decide +kernel
theorem dX0_mix_78 : decode cX0_mix 78 = .ok (.iastore, 1) := by decide +kernel
theorem dX0_mix_79 : decode cX0_mix 79 = .ok (.aload_n 0, 1) := by decide +kernel
theorem dX0_mix_80 : decode cX0_mix 80 = .ok (.iload_n 1, 1) := by decide +kernel
theorem dX0_mix_81 : decode cX0_mix 81 = .ok (.iconst 1, 1) := by decide +kernel
theorem dX0_mix_82 : decode cX0_mix 82 = .ok (.iadd, 1) := by decide +kernel
theorem dX0_mix_83 : decode cX0_mix 83 = .ok (.iload 4, 2) := by decide +kernel
theorem dX0_mix_85 : decode cX0_mix 85 = .ok (.iastore, 1) := by decide +kernel
theorem dX0_mix_86 : decode cX0_mix 86 = .ok (.aload_n 0, 1) := by decide +kernel
theorem dX0_mix_87 : decode cX0_mix 87 = .ok (.iload_n 1, 1) := by decide +kernel
theorem dX0_mix_88 : decode cX0_mix 88 = .ok (.iconst 2, 1) := by decide +kernel
theorem dX0_mix_89 : decode cX0_mix 89 = .ok (.iadd, 1) := by decide +kernel
theorem dX0_mix_90 : decode cX0_mix 90 = .ok (.iload_n 3, 1) := by decide +kernel
theorem dX0_mix_91 : decode cX0_mix 91 = .ok (.bipush 22, 2) := by decide +kernel
theorem dX0_mix_93 : decode cX0_mix 93 = .ok (.invokestatic 133, 3) := by decide +kernel
theorem dX0_mix_96 : decode cX0_mix 96 = .ok (.iastore, 1) := by decide +kernel
theorem dX0_mix_97 : decode cX0_mix 97 = .ok (.aload_n 0, 1) := by decide +kernel
theorem dX0_mix_98 : decode cX0_mix 98 = .ok (.iload_n 1, 1) := by decide +kernel
theorem dX0_mix_99 : decode cX0_mix 99 = .ok (.iconst 3, 1) := by decide +kernel
theorem dX0_mix_100 : decode cX0_mix 100 = .ok (.iadd, 1) := by decide +kernel
theorem dX0_mix_101 : decode cX0_mix 101 = .ok (.iload 5, 2) := by decide +kernel
theorem dX0_mix_103 : decode cX0_mix 103 = .ok (.iastore, 1) := by decide +kernel
theorem dX0_mix_104 : decode cX0_mix 104 = .ok (.return_, 1) := by decide +kernel
theorem dX0_unmix_0 : decode cX0_unmix 0 = .ok (.aload_n 0, 1) := by decide +kernel
theorem dX0_unmix_1 : decode cX0_unmix 1 = .ok (.iload_n 1, 1) := by decide +kernel
theorem dX0_unmix_2 : decode cX0_unmix 2 = .ok (.iconst 1, 1) := by decide +kernel
theorem dX0_unmix_3 : decode cX0_unmix 3 = .ok (.iadd, 1) := by decide +kernel
theorem dX0_unmix_4 : decode cX0_unmix 4 = .ok (.iaload, 1) := by decide +kernel
theorem dX0_unmix_5 : decode cX0_unmix 5 = .ok (.istore_n 2, 1) := by decide +kernel
theorem dX0_unmix_6 : decode cX0_unmix 6 = .ok (.aload_n 0, 1) := by decide +kernel
theorem dX0_unmix_7 : decode cX0_unmix 7 = .ok (.iload_n 1, 1) := by decide +kernel
theorem dX0_unmix_8 : decode cX0_unmix 8 = .ok (.iconst 3, 1) := by decide +kernel
theorem dX0_unmix_9 : decode cX0_unmix 9 = .ok (.iadd, 1) := by decide +kernel
theorem dX0_unmix_10 : decode cX0_unmix 10 = .ok (.iaload, 1) := by decide +kernel
theorem dX0_unmix_11 : decode cX0_unmix 11 = .ok (.istore_n 3, 1) := by decide +kernel
theorem dX0_unmix_12 : decode cX0_unmix 12 = .ok (.aload_n 0, 1) := by decide +kernel
theorem dX0_unmix_13 : decode cX0_unmix 13 = .ok (.iload_n 1, 1) := by decide +kernel
theorem dX0_unmix_14 : decode cX0_unmix 14 = .ok (.iconst 2, 1) := by decide +kernel
theorem dX0_unmix_15 : decode cX0_unmix 15 = .ok (.iadd, 1) := by decide +kernel
theorem dX0_unmix_16 : decode cX0_unmix 16 = .ok (.iaload, 1) := by decide +kernel
theorem dX0_unmix_17 : decode cX0_unmix 17 = .ok (.bipush 22, 2) := by decide +kernel
theorem dX0_unmix_19 : decode cX0_unmix 19 = .ok (.invokestatic 166, 3) := by decide +kernel
theorem dX0_unmix_22 : decode cX0_unmix 22 = .ok (.iload_n 3, 1) := by decide +kernel
theorem dX0_unmix_23 : decode cX0_unmix 23 = .ok (.ixor, 1) := by decide +kernel
theorem dX0_unmix_24 : decode cX0_unmix 24 = .ok (.iload_n 2, 1) := by decide +kernel
theorem dX0_unmix_25 : decode cX0_unmix 25 = .ok (.bipush 7, 2) := by decide +kernel
theorem dX0_unmix_27 : decode cX0_unmix 27 = .ok (.ishl, 1) := by decide +kernel
theorem dX0_unmix_28 : decode cX0_unmix 28 = .ok (.ixor, 1) := by decide +kernel
theorem dX0_unmix_29 : decode cX0_unmix 29 = .ok (.istore 4, 2) := by decide +kernel
theorem dX0_unmix_31 : decode cX0_unmix 31 = .ok (.aload_n 0, 1) := by decide +kernel
theorem dX0_unmix_32 : decode cX0_unmix 32 = .ok (.iload_n 1, 1) := by decide +kernel
theorem dX0_unmix_33 : decode cX0_unmix 33 = .ok (.iaload, 1) := by decide +kernel
theorem dX0_unmix_34 : decode cX0_unmix 34 = .ok (.iconst 5, 1) := by decide +kernel
theorem dX0_unmix_35 : decode cX0_unmix 35 = .ok (.invokestatic 166, 3) := by decide +kernel
theorem dX0_unmix_38 : decode cX0_unmix 38 = .ok (.iload_n 2, 1) := by decide +kernel
theorem dX0_unmix_39 : decode cX0_unmix 39 = .ok (.ixor, 1) := by decide +kernel
theorem dX0_unmix_40 : decode cX0_unmix 40 = .ok (.iload_n 3, 1) := by decide +kernel
theorem dX0_unmix_41 : decode cX0_unmix 41 = .ok (.ixor, 1) := by decide +kernel
theorem dX0_unmix_42 : decode cX0_unmix 42 = .ok (.istore 5, 2) := by decide +kernel
theorem dX0_unmix_44 : decode cX0_unmix 44 = .ok (.aload_n 0, 1) := by decide +kernel
theorem dX0_unmix_45 : decode cX0_unmix 45 = .ok (.iload_n 1, 1) := by decide +kernel
theorem dX0_unmix_46 : decode cX0_unmix 46 = .ok (.iload 5, 2) := by decide +kernel
theorem dX0_unmix_48 : decode cX0_unmix 48 = .ok (.bipush 13, 2) := by decide +kernel
theorem dX0_unmix_50 : decode cX0_unmix 50 = .ok (.invokestatic 166, 3) := by decide +kernel
theorem dX0_unmix_53 : decode cX0_unmix 53 = .ok (.iastore, 1) := by decide +kernel
theorem dX0_unmix_54 : decode cX0_unmix 54 = .ok (.aload_n 0, 1) := by decide +kernel
theorem dX0_unmix_55 : decode cX0_unmix 55 = .ok (.iload_n 1, 1) := by decide +kernel
theorem dX0_unmix_56 : decode cX0_unmix 56 = .ok (.iconst 1, 1) := by decide +kernel
theorem dX0_unmix_57 : decode cX0_unmix 57 = .ok (.iadd, 1) := by decide +kernel
theorem dX0_unmix_58 : decode cX0_unmix 58 = .ok (.iload_n 2, 1) := by decide +kernel
theorem dX0_unmix_59 : decode cX0_unmix 59 = .ok (.iconst 1, 1) := by decide +kernel
theorem dX0_unmix_60 : decode cX0_unmix 60 = .ok (.invokestatic 166, 3) := by decide +kernel
theorem dX0_unmix_63 : decode cX0_unmix 63 = .ok (.iload 5, 2) := by decide +kernel
theorem dX0_unmix_65 : decode cX0_unmix 65 = .ok (.ixor, 1) := by decide +kernel
theorem dX0_unmix_66 : decode cX0_unmix 66 = .ok (.iload 4, 2) := by decide +kernel
theorem dX0_unmix_68 : decode cX0_unmix 68 = .ok (.ixor, 1) := by decide +kernel
theorem dX0_unmix_69 : decode cX0_unmix 69 = .ok (.iastore, 1) := by decide +kernel
theorem dX0_unmix_70 : decode cX0_unmix 70 = .ok (.aload_n 0, 1) := by decide +kernel
theorem dX0_unmix_71 : decode cX0_unmix 71 = .ok (.iload_n 1, 1) := by decide +kernel
theorem dX0_unmix_72 : decode cX0_unmix 72 = .ok (.iconst 2, 1) := by decide +kernel
theorem dX0_unmix_73 : decode cX0_unmix 73 = .ok (.iadd, 1) := by decide +kernel
theorem dX0_unmix_74 : decode cX0_unmix 74 = .ok (.iload 4, 2) := by decide +kernel
theorem dX0_unmix_76 : decode cX0_unmix 76 = .ok (.iconst 3, 1) := by decide +kernel
theorem dX0_unmix_77 : decode cX0_unmix 77 = .ok (.invokestatic 166, 3) := by decide +kernel
theorem dX0_unmix_80 : decode cX0_unmix 80 = .ok (.iastore, 1) := by decide +kernel
theorem dX0_unmix_81 : decode cX0_unmix 81 = .ok (.aload_n 0, 1) := by decide +kernel
theorem dX0_unmix_82 : decode cX0_unmix 82 = .ok (.iload_n 1, 1) := by decide +kernel
theorem dX0_unmix_83 : decode cX0_unmix 83 = .ok (.iconst 3, 1) := by decide +kernel
theorem dX0_unmix_84 : decode cX0_unmix 84 = .ok (.iadd, 1) := by decide +kernel
theorem dX0_unmix_85 : decode cX0_unmix 85 = .ok (.iload_n 3, 1) := by decide +kernel
theorem dX0_unmix_86 : decode cX0_unmix 86 = .ok (.bipush 7, 2) := by decide +kernel
theorem dX0_unmix_88 : decode cX0_unmix 88 = .ok (.invokestatic 166, 3) := by decide +kernel
theorem dX0_unmix_91 : decode cX0_unmix 91 = .ok (.iload 4, 2) := by decide +kernel
theorem dX0_unmix_93 : decode cX0_unmix 93 = .ok (.ixor, 1) := by decide +kernel
theorem dX0_unmix_94 : decode cX0_unmix 94 = .ok (.iload 5, 2) := by decide +kernel
theorem dX0_unmix_96 : decode cX0_unmix 96 = .ok (.iconst 3, 1) := by decide +kernel
theorem dX0_unmix_97 : decode cX0_unmix 97 = .ok (.ishl, 1) := by decide +kernel
theorem dX0_unmix_98 : decode cX0_unmix 98 = .ok (.ixor, 1) := by decide +kernel
theorem dX0_unmix_99 : decode cX0_unmix 99 = .ok (.iastore, 1) := by decide +kernel
theorem dX0_unmix_100 : decode cX0_unmix 100 = .ok (.return_, 1) := by decide +kernel
theorem dJ6_rotateLeft_7cf53_0 : decode cJ6_rotateLeft_7cf53 0 = .ok (.iload_n 0, 1) := by decide +kernel
theorem dJ6_rotateLeft_7cf53_1 : decode cJ6_rotateLeft_7cf53 1 = .ok (.iload_n 1, 1) := by decide +kernel
theorem dJ6_rotateLeft_7cf53_2 : decode cJ6_rotateLeft_7cf53 2 = .ok (.ishl, 1) := by decide +kernel
theorem dJ6_rotateLeft_7cf53_3 : decode cJ6_rotateLeft_7cf53 3 = .ok (.iload_n 0, 1) := by decide +kernel
theorem dJ6_rotateLeft_7cf53_4 : decode cJ6_rotateLeft_7cf53 4 = .ok (.iload_n 1, 1) := by decide +kernel
theorem dJ6_rotateLeft_7cf53_5 : decode cJ6_rotateLeft_7cf53 5 = .ok (.ineg, 1) := by decide +kernel
theorem dJ6_rotateLeft_7cf53_6 : decode cJ6_rotateLeft_7cf53 6 = .ok (.iushr, 1) := by decide +kernel
theorem dJ6_rotateLeft_7cf53_7 : decode cJ6_rotateLeft_7cf53 7 = .ok (.ior, 1) := by decide +kernel
theorem dJ6_rotateLeft_7cf53_8 : decode cJ6_rotateLeft_7cf53 8 = .ok (.ireturn, 1) := by decide +kernel
theorem dJ6_rotateRight_7cf53_0 : decode cJ6_rotateRight_7cf53 0 = .ok (.iload_n 0, 1) := by decide +kernel
theorem dJ6_rotateRight_7cf53_1 : decode cJ6_rotateRight_7cf53 1 = .ok (.iload_n 1, 1) := by decide +kernel
theorem dJ6_rotateRight_7cf53_2 : decode cJ6_rotateRight_7cf53 2 = .ok (.iushr, 1) := by decide +kernel
theorem dJ6_rotateRight_7cf53_3 : decode cJ6_rotateRight_7cf53 3 = .ok (.iload_n 0, 1) := by decide +kernel
theorem dJ6_rotateRight_7cf53_4 : decode cJ6_rotateRight_7cf53 4 = .ok (.iload_n 1, 1) := by decide +kernel
theorem dJ6_rotateRight_7cf53_5 : decode cJ6_rotateRight_7cf53 5 = .ok (.ineg, 1) := by decide +kernel
theorem dJ6_rotateRight_7cf53_6 : decode cJ6_rotateRight_7cf53 6 = .ok (.ishl, 1) := by decide +kernel
theorem dJ6_rotateRight_7cf53_7 : decode cJ6_rotateRight_7cf53 7 = .ok (.ior, 1) := by decide +kernel
theorem dJ6_rotateRight_7cf53_8 : decode cJ6_rotateRight_7cf53 8 = .ok (.ireturn, 1) := by decide +kernel
theorem dJ9_floorMod_7cf53_0 : decode cJ9_floorMod_7cf53 0 = .ok (.iload_n 0, 1) := by decide +kernel
theorem dJ9_floorMod_7cf53_1 : decode cJ9_floorMod_7cf53 1 = .ok (.iload_n 1, 1) := by decide +kernel
theorem dJ9_floorMod_7cf53_2 : decode cJ9_floorMod_7cf53 2 = .ok (.irem, 1) := by decide +kernel
theorem dJ9_floorMod_7cf53_3 : decode cJ9_floorMod_7cf53 3 = .ok (.istore_n 2, 1) := by decide +kernel
theorem dJ9_floorMod_7cf53_4 : decode cJ9_floorMod_7cf53 4 = .ok (.iload_n 0, 1) := by decide +kernel
theorem dJ9_floorMod_7cf53_5 : decode cJ9_floorMod_7cf53 5 = .ok (.iload_n 1, 1) := by decide +kernel
theorem dJ9_floorMod_7cf53_6 : decode cJ9_floorMod_7cf53 6 = .ok (.ixor, 1) := by decide +kernel
theorem dJ9_floorMod_7cf53_7 : decode cJ9_floorMod_7cf53 7 = .ok (.ifCond .ge 11, 3) := by decide +kernel
theorem dJ9_floorMod_7cf53_10 : decode cJ9_floorMod_7cf53 10 = .ok (.iload_n 2, 1) := by decide +kernel
theorem dJ9_floorMod_7cf53_11 : decode cJ9_floorMod_7cf53 11 = .ok (.ifCond .eq 7, 3) := by decide +kernel
theorem dJ9_floorMod_7cf53_14 : decode cJ9_floorMod_7cf53 14 = .ok (.iload_n 2, 1) := by decide +kernel
theorem dJ9_floorMod_7cf53_15 : decode cJ9_floorMod_7cf53 15 = .ok (.iload_n 1, 1) := by decide +kernel
theorem dJ9_floorMod_7cf53_16 : decode cJ9_floorMod_7cf53 16 = .ok (.iadd, 1) := by decide +kernel
theorem dJ9_floorMod_7cf53_17 : decode cJ9_floorMod_7cf53 17 = .ok (.ireturn, 1) := by decide +kernel
theorem dJ9_floorMod_7cf53_18 : decode cJ9_floorMod_7cf53 18 = .ok (.iload_n 2, 1) := by decide +kernel
theorem dJ9_floorMod_7cf53_19 : decode cJ9_floorMod_7cf53 19 = .ok (.ireturn, 1) := by decide +kernel
end
section
theorem dX1_init_0 : decode cX1_init 0 = .ok (.aload_n 0, 1) := by decide +kernel
theorem dX1_init_1 : decode cX1_init 1 = .ok (.invokespecial 1, 3) := by decide +kernel
theorem dX1_init_4 : decode cX1_init 4 = .ok (.aload_n 0, 1) := by decide +kernel
theorem dX1_init_5 : decode cX1_init 5 = .ok (.bipush 8, 2) := by decide +kernel
theorem dX1_init_7 : decode cX1_init 7 = .ok (.newarray .int, 2) := by decide +kernel
theorem dX1_init_9 : decode cX1_init 9 = .ok (.putfield 7, 3) := by decide +kernel
theorem dX1_init_12 : decode cX1_init 12 = .ok (.aload_n 0, 1) := by decide +kernel
theorem dX1_init_13 : decode cX1_init 13 = .ok (.sipush 140, 3) := by decide +kernel
theorem dX1_init_16 : decode cX1_init 16 = .ok (.newarray .int, 2) := by decide +kernel
theorem dX1_init_18 : decode cX1_init 18 = .ok (.putfield 13, 3) := by decide +kernel
theorem dX1_init_21 : decode cX1_init 21 = .ok (.aload_n 0, 1) := by decide +kernel
theorem dX1_init_22 : decode cX1_init 22 = .ok (.sipush 132, 3) := by decide +kernel
theorem dX1_init_25 : decode cX1_init 25 = .ok (.newarray .int, 2) := by decide +kernel
theorem dX1_init_27 : decode cX1_init 27 = .ok (.putfield 16, 3) := by decide +kernel
theorem dX1_init_30 : decode cX1_init 30 = .ok (.aload_n 0, 1) := by decide +kernel
theorem dX1_init_31 : decode cX1_init 31 = .ok (.iconst 4, 1) := by decide +kernel
theorem dX1_init_32 : decode cX1_init 32 = .ok (.newarray .int, 2) := by decide +kernel
theorem dX1_init_34 : decode cX1_init 34 = .ok (.putfield 19, 3) := by decide +kernel
theorem dX1_init_37 : decode cX1_init 37 = .ok (.aload_n 0, 1) := by decide +kernel
theorem dX1_init_38 : decode cX1_init 38 = .ok (.sipush 256, 3) := by decide +kernel
theorem dX1_init_41 : decode cX1_init 41 = .ok (.newarray .int, 2) := by decide +kernel
theorem dX1_init_43 : decode cX1_init 43 = .ok (.putfield 22, 3) := by decide +kernel
theorem dX1_init_46 : decode cX1_init 46 = .ok (.aload_n 0, 1) := by decide +kernel
theorem dX1_init_47 : decode cX1_init 47 = .ok (.sipush 128, 3) := by decide +kernel
theorem dX1_init_50 : decode cX1_init 50 = .ok (.newarray .int, 2) := by decide +kernel
theorem dX1_init_52 : decode cX1_init 52 = .ok (.dup, 1) := by decide +kernel
theorem dX1_init_53 : decode cX1_init 53 = .ok (.iconst 0, 1) := by decide +kernel
theorem dX1_init_54 : decode cX1_init 54 = .ok (.iconst 3, 1) := by decide +kernel
theorem dX1_init_55 : decode cX1_init 55 = .ok (.iastore, 1) := by decide +kernel
theorem dX1_init_56 : decode cX1_init 56 = .ok (.dup, 1) := by decide +kernel
theorem dX1_init_57 : decode cX1_init 57 = .ok (.iconst 1, 1) := by decide +kernel
theorem dX1_init_58 : decode cX1_init 58 = .ok (.bipush 8, 2) := by decide +kernel
theorem dX1_init_60 : decode cX1_init 60 = .ok (.iastore, 1) := by decide +kernel
theorem dX1_init_61 : decode cX1_init 61 = .ok (.dup, 1) := by decide +kernel
theorem dX1_init_62 : decode cX1_init 62 = .ok (.iconst 2, 1) := by decide +kernel
theorem dX1_init_63 : decode cX1_init 63 = .ok (.bipush 15, 2) := by decide +kernel
theorem dX1_init_65 : decode cX1_init 65 = .ok (.iastore, 1) := by decide +kernel
theorem dX1_init_66 : decode cX1_init 66 = .ok (.dup, 1) := by decide +kernel
theorem dX1_init_67 : decode cX1_init 67 = .ok (.iconst 3, 1) := by decide +kernel
theorem dX1_init_68 : decode cX1_init 68 = .ok (.iconst 1, 1) := by decide +kernel
theorem dX1_init_69 : decode cX1_init 69 = .ok (.iastore, 1) := by decide +kernel
theorem dX1_init_70 : decode cX1_init 70 = .ok (.dup, 1) := by decide +kernel
theorem dX1_init_71 : decode cX1_init 71 = .ok (.iconst 4, 1) := by decide +kernel
theorem dX1_init_72 : decode cX1_init 72 = .ok (.bipush 10, 2) := by decide +kernel
theorem dX1_init_74 : decode cX1_init 74 = .ok (.iastore, 1) := by decide +kernel
theorem dX1_init_75 : decode cX1_init 75 = .ok (.dup, 1) := by decide +kernel
theorem dX1_init_76 : decode cX1_init 76 = .ok (.iconst 5, 1) := by decide +kernel
theorem dX1_init_77 : decode cX1_init 77 = .ok (.bipush 6, 2) := by decide +kernel
theorem dX1_init_79 : decode cX1_init 79 = .ok (.iastore, 1) := by decide +kernel
theorem dX1_init_80 : decode cX1_init 80 = .ok (.dup, 1) := by decide +kernel
theorem dX1_init_81 : decode cX1_init 81 = .ok (.bipush 6, 2) := by decide +kernel
theorem dX1_init_83 : decode cX1_init 83 = .ok (.iconst 5, 1) := by decide +kernel
theorem dX1_init_84 : decode cX1_init 84 = .ok (.iastore, 1) := by decide +kernel
theorem dX1_init_85 : decode cX1_init 85 = .ok (.dup, 1) := by decide +kernel
theorem dX1_init_86 : decode cX1_init 86 = .ok (.bipush 7, 2) := by decide +kernel
theorem dX1_init_88 : decode cX1_init 88 = .ok (.bipush 11, 2) := by decide +kernel
theorem dX1_init_90 : decode cX1_init 90 = .ok (.iastore, 1) := by decide +kernel
theorem dX1_init_91 : decode cX1_init 91 = .ok (.dup, 1) := by decide +kernel
theorem dX1_init_92 : decode cX1_init 92 = .ok (.bipush 8, 2) := by decide +kernel
theorem dX1_init_94 : decode cX1_init 94 = .ok (.bipush 14, 2) := by decide +kernel
theorem dX1_init_96 : decode cX1_init 96 = .ok (.iastore, 1) := by decide +kernel
theorem dX1_init_97 : decode cX1_init 97 = .ok (.dup, 1) := by decide +kernel
theorem dX1_init_98 : decode cX1_init 98 = .ok (.bipush 9, 2) := by decide +kernel
theorem dX1_init_100 : decode cX1_init 100 = .ok (.bipush 13, 2) := by decide +kernel
theorem dX1_init_102 : decode cX1_init 102 = .ok (.iastore, 1) := by decide +kernel
theorem dX1_init_103 : decode cX1_init 103 = .ok (.dup, 1) := by decide +kernel
theorem dX1_init_104 : decode cX1_init 104 = .ok (.bipush 10, 2) := by decide +kernel
theorem dX1_init_106 : decode cX1_init 106 = .ok (.iconst 4, 1) := by decide +kernel
theorem dX1_init_107 : decode cX1_init 107 = .ok (.iastore, 1) := by decide +kernel
theorem dX1_init_108 : decode cX1_init 108 = .ok (.dup, 1) := by decide +kernel
theorem dX1_init_109 : decode cX1_init 109 = .ok (.bipush 11, 2) := by decide +kernel
theorem dX1_init_111 : decode cX1_init 111 = .ok (.iconst 2, 1) := by decide +kernel
theorem dX1_init_112 : decode cX1_init 112 = .ok (.iastore, 1) := by decide +kernel
theorem dX1_init_113 : decode cX1_init 113 = .ok (.dup, 1) := by decide +kernel
theorem dX1_init_114 : decode cX1_init 114 = .ok (.bipush 12, 2) := by decide +kernel
theorem dX1_init_116 : decode cX1_init 116 = .ok (.bipush 7, 2) := by decide +kernel
theorem dX1_init_118 : decode cX1_init 118 = .ok (.iastore, 1) := by decide +kernel
theorem dX1_init_119 : decode cX1_init 119 = .ok (.dup, 1) := by decide +kernel
theorem dX1_init_120 : decode cX1_init 120 = .ok (.bipush 13, 2) := by decide +kernel
theorem dX1_init_122 : decode cX1_init 122 = .ok (.iconst 0, 1) := by decide +kernel
theorem dX1_init_123 : decode cX1_init 123 = .ok (.iastore, 1) := by decide +kernel
theorem dX1_init_124 : decode cX1_init 124 = .ok (.dup, 1) := by decide +kernel
theorem dX1_init_125 : decode cX1_init 125 = .ok (.bipush 14, 2) := by decide +kernel
theorem dX1_init_127 : decode cX1_init 127 = .ok (.bipush 9, 2) := by decide +kernel
theorem dX1_init_129 : decode cX1_init 129 = .ok (.iastore, 1) := by decide +kernel
theorem dX1_init_130 : decode cX1_init 130 = .ok (.dup, 1) := by decide +kernel
theorem dX1_init_131 : decode cX1_init 131 = .ok (.bipush 15, 2) := by decide +kernel
theorem dX1_init_133 : decode cX1_init 133 = .ok (.bipush 12, 2) := by decide +kernel
theorem dX1_init_135 : decode cX1_init 135 = .ok (.iastore, 1) := by decide +kernel
theorem dX1_init_136 : decode cX1_init 136 = .ok (.dup, 1) := by decide +kernel
theorem dX1_init_137 : decode cX1_init 137 = .ok (.bipush 16, 2) := by decide +kernel
theorem dX1_init_139 : decode cX1_init 139 = .ok (.bipush 15, 2) := by decide +kernel
theorem dX1_init_141 : decode cX1_init 141 = .ok (.iastore, 1) := by decide +kernel
theorem dX1_init_142 : decode cX1_init 142 = .ok (.dup, 1) := by decide +kernel
theorem dX1_init_143 : decode cX1_init 143 = .ok (.bipush 17, 2) := by decide +kernel
theorem dX1_init_145 : decode cX1_init 145 = .ok (.bipush 12, 2) := by decide +kernel
theorem dX1_init_147 : decode cX1_init 147 = .ok (.iastore, 1) := by decide +kernel
theorem dX1_init_148 : decode cX1_init 148 = .ok (.dup, 1) := by decide +kernel
theorem dX1_init_149 : decode cX1_init 149 = .ok (.bipush 18, 2) := by decide +kernel
theorem dX1_init_151 : decode cX1_init 151 = .ok (.iconst 2, 1) := by decide +kernel
theorem dX1_init_152 : decode cX1_init 152 = .ok (.iastore, 1) := by decide +kernel
theorem dX1_init_153 : decode cX1_init 153 = .ok (.dup, 1) := by decide +kernel
theorem dX1_init_154 : decode cX1_init 154 = .ok (.bipush 19, 2) := by decide +kernel
theorem dX1_init_156 : decode cX1_init 156 = .ok (.bipush 7, 2) := by decide +kernel
theorem dX1_init_158 : decode cX1_init 158 = .ok (.iastore, 1) := by decide +kernel
theorem dX1_init_159 : decode cX1_init 159 = .ok (.dup, 1) := by decide +kernel
theorem dX1_init_160 : decode cX1_init 160 = .ok (.bipush 20, 2) := by decide +kernel
theorem dX1_init_162 : decode cX1_init 162 = .ok (.bipush 9, 2) := by decide +kernel
theorem dX1_init_164 : decode cX1_init 164 = .ok (.iastore, 1) := by decide +kernel
theorem dX1_init_165 : decode cX1_init 165 = .ok (.dup, 1) := by decide +kernel
theorem dX1_init_166 : decode cX1_init 166 = .ok (.bipush 21, 2) := by decide +kernel
theorem dX1_init_168 : decode cX1_init 168 = .ok (.iconst 0, 1) := by decide +kernel
theorem dX1_init_169 : decode cX1_init 169 = .ok (.iastore, 1) := by decide +kernel
theorem dX1_init_170 : decode cX1_init 170 = .ok (.dup, 1) := by decide +kernel
theorem dX1_init_171 : decode cX1_init 171 = .ok (.bipush 22, 2) := by decide +kernel
theorem dX1_init_173 : decode cX1_init 173 = .ok (.iconst 5, 1) := by decide +kernel
theorem dX1_init_174 : decode cX1_init 174 = .ok (.iastore, 1) := by decide +kernel
theorem dX1_init_175 : decode cX1_init 175 = .ok (.dup, 1) := by decide +kernel
theorem dX1_init_176 : decode cX1_init 176 = .ok (.bipush 23, 2) := by decide +kernel
theorem dX1_init_178 : decode cX1_init 178 = .ok (.bipush 10, 2) := by decide +kernel
theorem dX1_init_180 : decode cX1_init 180 = .ok (.iastore, 1) := by decide +kernel
theorem dX1_init_181 : decode cX1_init 181 = .ok (.dup, 1) := by decide +kernel
theorem dX1_init_182 : decode cX1_init 182 = .ok (.bipush 24, 2) := by decide +kernel
theorem dX1_init_184 : decode cX1_init 184 = .ok (.iconst 1, 1) := by decide +kernel
theorem dX1_init_185 : decode cX1_init 185 = .ok (.iastore, 1) := by decide +kernel
theorem dX1_init_186 : decode cX1_init 186 = .ok (.dup, 1) := by decide +kernel
theorem dX1_init_187 : decode cX1_init 187 = .ok (.bipush 25, 2) := by decide +kernel
theorem dX1_init_189 : decode cX1_init 189 = .ok (.bipush 11, 2) := by decide +kernel
theorem dX1_init_191 : decode cX1_init 191 = .ok (.iastore, 1) := by decide +kernel
theorem dX1_init_192 : decode cX1_init 192 = .ok (.dup, 1) := by decide +kernel
theorem dX1_init_193 : decode cX1_init 193 = .ok (.bipush 26, 2) := by decide +kernel
theorem dX1_init_195 : decode cX1_init 195 = .ok (.bipush 14, 2) := by decide +kernel
theorem dX1_init_197 : decode cX1_init 197 = .ok (.iastore, 1) := by decide +kernel
theorem dX1_init_198 : decode cX1_init 198 = .ok (.dup, 1) := by decide +kernel
theorem dX1_init_199 : decode cX1_init 199 = .ok (.bipush 27, 2) := by decide +kernel
theorem dX1_init_201 : decode cX1_init 201 = .ok (.bipush 8, 2) := by decide +kernel
theorem dX1_init_203 : decode cX1_init 203 = .ok (.iastore, 1) := by decide +kernel
theorem dX1_init_204 : decode cX1_init 204 = .ok (.dup, 1) := by decide +kernel
theorem dX1_init_205 : decode cX1_init 205 = .ok (.bipush 28, 2) := by decide +kernel
theorem dX1_init_207 : decode cX1_init 207 = .ok (.bipush 6, 2) := by decide +kernel
theorem dX1_init_209 : decode cX1_init 209 = .ok (.iastore, 1) := by decide +kernel
theorem dX1_init_210 : decode cX1_init 210 = .ok (.dup, 1) := by decide +kernel
theorem dX1_init_211 : decode cX1_init 211 = .ok (.bipush 29, 2) := by decide +kernel
theorem dX1_init_213 : decode cX1_init 213 = .ok (.bipush 13, 2) := by decide +kernel
theorem dX1_init_215 : decode cX1_init 215 = .ok (.iastore, 1) := by decide +kernel
theorem dX1_init_216 : decode cX1_init 216 = .ok (.dup, 1) := by decide +kernel
theorem dX1_init_217 : decode cX1_init 217 = .ok (.bipush 30, 2) := by decide +kernel
theorem dX1_init_219 : decode cX1_init 219 = .ok (.iconst 3, 1) := by decide +kernel
theorem dX1_init_220 : decode cX1_init 220 = .ok (.iastore, 1) := by decide +kernel
theorem dX1_init_221 : decode cX1_init 221 = .ok (.dup, 1) := by decide +kernel
theorem dX1_init_222 : decode cX1_init 222 = .ok (.bipush 31, 2) := by decide +kernel
theorem dX1_init_224 : decode cX1_init 224 = .ok (.iconst 4, 1) := by decide +kernel
theorem dX1_init_225 : decode cX1_init 225 = .ok (.iastore, 1) := by decide +kernel
theorem dX1_init_226 : decode cX1_init 226 = .ok (.dup, 1) := by decide +kernel
theorem dX1_init_227 : decode cX1_init 227 = .ok (.bipush 32, 2) := by decide +kernel
theorem dX1_init_229 : decode cX1_init 229 = .ok (.bipush 8, 2) := by decide +kernel
theorem dX1_init_231 : decode cX1_init 231 = .ok (.iastore, 1) := by decide +kernel
theorem dX1_init_232 : decode cX1_init 232 = .ok (.dup, 1) := by decide +kernel
theorem dX1_init_233 : decode cX1_init 233 = .ok (.bipush 33, 2) := by decide +kernel
theorem dX1_init_235 : decode cX1_init 235 = .ok (.bipush 6, 2) := by decide +kernel
theorem dX1_init_237 : decode cX1_init 237 = .ok (.iastore, 1) := by decide +kernel
theorem dX1_init_238 : decode cX1_init 238 = .ok (.dup, 1) := by decide +kernel
theorem dX1_init_239 : decode cX1_init 239 = .ok (.bipush 34, 2) := by decide +kernel
theorem dX1_init_241 : decode cX1_init 241 = .ok (.bipush 7, 2) := by decide +kernel
theorem dX1_init_243 : decode cX1_init 243 = .ok (.iastore, 1) := by decide +kernel
theorem dX1_init_244 : decode cX1_init 244 = .ok (.dup, 1) := by decide +kernel
theorem dX1_init_245 : decode cX1_init 245 = .ok (.bipush 35, 2) := by decide +kernel
theorem dX1_init_247 : decode cX1_init 247 = .ok (.bipush 9, 2) := by decide +kernel
theorem dX1_init_249 : decode cX1_init 249 = .ok (.iastore, 1) := by decide +kernel
theorem dX1_init_250 : decode cX1_init 250 = .ok (.dup, 1) := by decide +kernel
theorem dX1_init_251 : decode cX1_init 251 = .ok (.bipush 36, 2) := by decide +kernel
theorem dX1_init_253 : decode cX1_init 253 = .ok (.iconst 3, 1) := by decide +kernel
theorem dX1_init_254 : decode cX1_init 254 = .ok (.iastore, 1) := by decide +kernel
theorem dX1_init_255 : decode cX1_init 255 = .ok (.dup, 1) := by decide +kernel
theorem dX1_init_256 : decode cX1_init 256 = .ok (.bipush 37, 2) := by decide +kernel
theorem dX1_init_258 : decode cX1_init 258 = .ok (.bipush 12, 2) := by decide +kernel
theorem dX1_init_260 : decode cX1_init 260 = .ok (.iastore, 1) := by decide +kernel
theorem dX1_init_261 : decode cX1_init 261 = .ok (.dup, 1) := by decide +kernel
theorem dX1_init_262 : decode cX1_init 262 = .ok (.bipush 38, 2) := by decide +kernel
theorem dX1_init_264 : decode cX1_init 264 = .ok (.bipush 10, 2) := by decide +kernel
theorem dX1_init_266 : decode cX1_init 266 = .ok (.iastore, 1) := by decide +kernel
theorem dX1_init_267 : decode cX1_init 267 = .ok (.dup, 1) := by decide +kernel
theorem dX1_init_268 : decode cX1_init 268 = .ok (.bipush 39, 2) := by decide +kernel
theorem dX1_init_270 : decode cX1_init 270 = .ok (.bipush 15, 2) := by decide +kernel
theorem dX1_init_272 : decode cX1_init 272 = .ok (.iastore, 1) := by decide +kernel
theorem dX1_init_273 : decode cX1_init 273 = .ok (.dup, 1) := by decide +kernel
theorem dX1_init_274 : decode cX1_init 274 = .ok (.bipush 40, 2) := by decide +kernel
theorem dX1_init_276 : decode cX1_init 276 = .ok (.bipush 13, 2) := by decide +kernel
theorem dX1_init_278 : decode cX1_init 278 = .ok (.iastore, 1) := by decide +kernel
theorem dX1_init_279 : decode cX1_init 279 = .ok (.dup, 1) := by decide +kernel
theorem dX1_init_280 : decode cX1_init 280 = .ok (.bipush 41, 2) := by decide +kernel
theorem dX1_init_282 : decode cX1_init 282 = .ok (.iconst 1, 1) := by decide +kernel
theorem dX1_init_283 : decode cX1_init 283 = .ok (.iastore, 1) := by decide +kernel
theorem dX1_init_284 : decode cX1_init 284 = .ok (.dup, 1) := by decide +kernel
theorem dX1_init_285 : decode cX1_init 285 = .ok (.bipush 42, 2) := by decide +kernel
theorem dX1_init_287 : decode cX1_init 287 = .ok (.bipush 14, 2) := by decide +kernel
theorem dX1_init_289 : decode cX1_init 289 = .ok (.iastore, 1) := by decide +kernel
theorem dX1_init_290 : decode cX1_init 290 = .ok (.dup, 1) := by decide +kernel
theorem dX1_init_291 : decode cX1_init 291 = .ok (.bipush 43, 2) := by decide +kernel
theorem dX1_init_293 : decode cX1_init 293 = .ok (.iconst 4, 1) := by decide +kernel
theorem dX1_init_294 : decode cX1_init 294 = .ok (.iastore, 1) := by decide +kernel
theorem dX1_init_295 : decode cX1_init 295 = .ok (.dup, 1) := by decide +kernel
theorem dX1_init_296 : decode cX1_init 296 = .ok (.bipush 44, 2) := by decide +kernel
theorem dX1_init_298 : decode cX1_init 298 = .ok (.iconst 0, 1) := by decide +kernel
theorem dX1_init_299 : decode cX1_init 299 = .ok (.iastore, 1) := by decide +kernel
theorem dX1_init_300 : decode cX1_init 300 = .ok (.dup, 1) := by decide +kernel
theorem dX1_init_301 : decode cX1_init 301 = .ok (.bipush 45, 2) := by decide +kernel
theorem dX1_init_303 : decode cX1_init 303 = .ok (.bipush 11, 2) := by decide +kernel
theorem dX1_init_305 : decode cX1_init 305 = .ok (.iastore, 1) := by decide +kernel
theorem dX1_init_306 : decode cX1_init 306 = .ok (.dup, 1) := by decide +kernel
theorem dX1_init_307 : decode cX1_init 307 = .ok (.bipush 46, 2) := by decide +kernel
theorem dX1_init_309 : decode cX1_init 309 = .ok (.iconst 5, 1) := by decide +kernel
theorem dX1_init_310 : decode cX1_init 310 = .ok (.iastore, 1) := by decide +kernel
theorem dX1_init_311 : decode cX1_init 311 = .ok (.dup, 1) := by decide +kernel
theorem dX1_init_312 : decode cX1_init 312 = .ok (.bipush 47, 2) := by decide +kernel
theorem dX1_init_314 : decode cX1_init 314 = .ok (.iconst 2, 1) := by decide +kernel
theorem dX1_init_315 : decode cX1_init 315 = .ok (.iastore, 1) := by decide +kernel
theorem dX1_init_316 : decode cX1_init 316 = .ok (.dup, 1) := by decide +kernel
theorem dX1_init_317 : decode cX1_init 317 = .ok (.bipush 48, 2) := by decide +kernel
theorem dX1_init_319 : decode cX1_init 319 = .ok (.iconst 0, 1) := by decide +kernel
theorem dX1_init_320 : decode cX1_init 320 = .ok (.iastore, 1) := by decide +kernel
theorem dX1_init_321 : decode cX1_init 321 = .ok (.dup, 1) := by decide +kernel
theorem dX1_init_322 : decode cX1_init 322 = .ok (.bipush 49, 2) := by decide +kernel
theorem dX1_init_324 : decode cX1_init 324 = .ok (.bipush 15, 2) := by decide +kernel
theorem dX1_init_326 : decode cX1_init 326 = .ok (.iastore, 1) := by decide +kernel
theorem dX1_init_327 : decode cX1_init 327 = .ok (.dup, 1) := by decide +kernel
theorem dX1_init_328 : decode cX1_init 328 = .ok (.bipush 50, 2) := by decide +kernel
theorem dX1_init_330 : decode cX1_init 330 = .ok (.bipush 11, 2) := by decide +kernel
theorem dX1_init_332 : decode cX1_init 332 = .ok (.iastore, 1) := by decide +kernel
theorem dX1_init_333 : decode cX1_init 333 = .ok (.dup, 1) := by decide +kernel
theorem dX1_init_334 : decode cX1_init 334 = .ok (.bipush 51, 2) := by decide +kernel
theorem dX1_init_336 : decode cX1_init 336 = .ok (.bipush 8, 2) := by decide +kernel
theorem dX1_init_338 : decode cX1_init 338 = .ok (.iastore, 1) := by decide +kernel
theorem dX1_init_339 : decode cX1_init 339 = .ok (.dup, 1) := by decide +kernel
theorem dX1_init_340 : decode cX1_init 340 = .ok (.bipush 52, 2) := by decide +kernel
theorem dX1_init_342 : decode cX1_init 342 = .ok (.bipush 12, 2) := by decide +kernel
theorem dX1_init_344 : decode cX1_init 344 = .ok (.iastore, 1) := by decide +kernel
theorem dX1_init_345 : decode cX1_init 345 = .ok (.dup, 1) := by decide +kernel
theorem dX1_init_346 : decode cX1_init 346 = .ok (.bipush 53, 2) := by decide +kernel
theorem dX1_init_348 : decode cX1_init 348 = .ok (.bipush 9, 2) := by decide +kernel
theorem dX1_init_350 : decode cX1_init 350 = .ok (.iastore, 1) := by decide +kernel
theorem dX1_init_351 : decode cX1_init 351 = .ok (.dup, 1) := by decide +kernel
theorem dX1_init_352 : decode cX1_init 352 = .ok (.bipush 54, 2) := by decide +kernel
theorem dX1_init_354 : decode cX1_init 354 = .ok (.bipush 6, 2) := by decide +kernel
theorem dX1_init_356 : decode cX1_init 356 = .ok (.iastore, 1) := by decide +kernel
theorem dX1_init_357 : decode cX1_init 357 = .ok (.dup, 1) := by decide +kernel
theorem dX1_init_358 : decode cX1_init 358 = .ok (.bipush 55, 2) := by decide +kernel
theorem dX1_init_360 : decode cX1_init 360 = .ok (.iconst 3, 1) := by decide +kernel
theorem dX1_init_361 : decode cX1_init 361 = .ok (.iastore, 1) := by decide +kernel
theorem dX1_init_362 : decode cX1_init 362 = .ok (.dup, 1) := by decide +kernel
theorem dX1_init_363 : decode cX1_init 363 = .ok (.bipush 56, 2) := by decide +kernel
theorem dX1_init_365 : decode cX1_init 365 = .ok (.bipush 13, 2) := by decide +kernel
theorem dX1_init_367 : decode cX1_init 367 = .ok (.iastore, 1) := by decide +kernel
theorem dX1_init_368 : decode cX1_init 368 = .ok (.dup, 1) := by decide +kernel
theorem dX1_init_369 : decode cX1_init 369 = .ok (.bipush 57, 2) := by decide +kernel
theorem dX1_init_371 : decode cX1_init 371 = .ok (.iconst 1, 1) := by decide +kernel
theorem dX1_init_372 : decode cX1_init 372 = .ok (.iastore, 1) := by decide +kernel
theorem dX1_init_373 : decode cX1_init 373 = .ok (.dup, 1) := by decide +kernel
theorem dX1_init_374 : decode cX1_init 374 = .ok (.bipush 58, 2) := by decide +kernel
theorem dX1_init_376 : decode cX1_init 376 = .ok (.iconst 2, 1) := by decide +kernel
theorem dX1_init_377 : decode cX1_init 377 = .ok (.iastore, 1) := by decide +kernel
theorem dX1_init_378 : decode cX1_init 378 = .ok (.dup, 1) := by decide +kernel
theorem dX1_init_379 : decode cX1_init 379 = .ok (.bipush 59, 2) := by decide +kernel
theorem dX1_init_381 : decode cX1_init 381 = .ok (.iconst 4, 1) := by decide +kernel
theorem dX1_init_382 : decode cX1_init 382 = .ok (.iastore, 1) := by decide +kernel
theorem dX1_init_383 : decode cX1_init 383 = .ok (.dup, 1) := by decide +kernel
theorem dX1_init_384 : decode cX1_init 384 = .ok (.bipush 60, 2) := by decide +kernel
theorem dX1_init_386 : decode cX1_init 386 = .ok (.bipush 10, 2) := by decide +kernel
theorem dX1_init_388 : decode cX1_init 388 = .ok (.iastore, 1) := by decide +kernel
theorem dX1_init_389 : decode cX1_init 389 = .ok (.dup, 1) := by decide +kernel
theorem dX1_init_390 : decode cX1_init 390 = .ok (.bipush 61, 2) := by decide +kernel
theorem dX1_init_392 : decode cX1_init 392 = .ok (.bipush 7, 2) := by decide +kernel
theorem dX1_init_394 : decode cX1_init 394 = .ok (.iastore, 1) := by decide +kernel
theorem dX1_init_395 : decode cX1_init 395 = .ok (.dup, 1) := by decide +kernel
theorem dX1_init_396 : decode cX1_init 396 = .ok (.bipush 62, 2) := by decide +kernel
theorem dX1_init_398 : decode cX1_init 398 = .ok (.iconst 5, 1) := by decide +kernel
theorem dX1_init_399 : decode cX1_init 399 = .ok (.iastore, 1) := by decide +kernel
theorem dX1_init_400 : decode cX1_init 400 = .ok (.dup, 1) := by decide +kernel
theorem dX1_init_401 : decode cX1_init 401 = .ok (.bipush 63, 2) := by decide +kernel
theorem dX1_init_403 : decode cX1_init 403 = .ok (.bipush 14, 2) := by decide +kernel
theorem dX1_init_405 : decode cX1_init 405 = .ok (.iastore, 1) := by decide +kernel
theorem dX1_init_406 : decode cX1_init 406 = .ok (.dup, 1) := by decide +kernel
theorem dX1_init_407 : decode cX1_init 407 = .ok (.bipush 64, 2) := by decide +kernel
theorem dX1_init_409 : decode cX1_init 409 = .ok (.iconst 1, 1) := by decide +kernel
theorem dX1_init_410 : decode cX1_init 410 = .ok (.iastore, 1) := by decide +kernel
theorem dX1_init_411 : decode cX1_init 411 = .ok (.dup, 1) := by decide +kernel
theorem dX1_init_412 : decode cX1_init 412 = .ok (.bipush 65, 2) := by decide +kernel
theorem dX1_init_414 : decode cX1_init 414 = .ok (.bipush 15, 2) := by decide +kernel
theorem dX1_init_416 : decode cX1_init 416 = .ok (.iastore, 1) := by decide +kernel
theorem dX1_init_417 : decode cX1_init 417 = .ok (.dup, 1) := by decide +kernel
theorem dX1_init_418 : decode cX1_init 418 = .ok (.bipush 66, 2) := by decide +kernel
theorem dX1_init_420 : decode cX1_init 420 = .ok (.bipush 8, 2) := by decide +kernel
theorem dX1_init_422 : decode cX1_init 422 = .ok (.iastore, 1) := by decide +kernel
theorem dX1_init_423 : decode cX1_init 423 = .ok (.dup, 1) := by decide +kernel
theorem dX1_init_424 : decode cX1_init 424 = .ok (.bipush 67, 2) := by decide +kernel
theorem dX1_init_426 : decode cX1_init 426 = .ok (.iconst 3, 1) := by decide +kernel
theorem dX1_init_427 : decode cX1_init 427 = .ok (.iastore, 1) := by decide +kernel
theorem dX1_init_428 : decode cX1_init 428 = .ok (.dup, 1) := by decide +kernel
theorem dX1_init_429 : decode cX1_init 429 = .ok (.bipush 68, 2) := by decide +kernel
theorem dX1_init_431 : decode cX1_init 431 = .ok (.bipush 12, 2) := by decide +kernel
theorem dX1_init_433 : decode cX1_init 433 = .ok (.iastore, 1) := by decide +kernel
theorem dX1_init_434 : decode cX1_init 434 = .ok (.dup, 1) := by decide +kernel
theorem dX1_init_435 : decode cX1_init 435 = .ok (.bipush 69, 2) := by decide +kernel
theorem dX1_init_437 : decode cX1_init 437 = .ok (.iconst 0, 1) := by decide +kernel
theorem dX1_init_438 : decode cX1_init 438 = .ok (.iastore, 1) := by decide +kernel
theorem dX1_init_439 : decode cX1_init 439 = .ok (.dup, 1) := by decide +kernel
theorem dX1_init_440 : decode cX1_init 440 = .ok (.bipush 70, 2) := by decide +kernel
theorem dX1_init_442 : decode cX1_init 442 = .ok (.bipush 11, 2) := by decide +kernel
theorem dX1_init_444 : decode cX1_init 444 = .ok (.iastore, 1) := by decide +kernel
theorem dX1_init_445 : decode cX1_init 445 = .ok (.dup, 1) := by decide +kernel
theorem dX1_init_446 : decode cX1_init 446 = .ok (.bipush 71, 2) := by decide +kernel
theorem dX1_init_448 : decode cX1_init 448 = .ok (.bipush 6, 2) := by decide +kernel
theorem dX1_init_450 : decode cX1_init 450 = .ok (.iastore, 1) := by decide +kernel
theorem dX1_init_451 : decode cX1_init 451 = .ok (.dup, 1) := by decide +kernel
theorem dX1_init_452 : decode cX1_init 452 = .ok (.bipush 72, 2) := by decide +kernel
theorem dX1_init_454 : decode cX1_init 454 = .ok (.iconst 2, 1) := by decide +kernel
theorem dX1_init_455 : decode cX1_init 455 = .ok (.iastore, 1) := by decide +kernel
theorem dX1_init_456 : decode cX1_init 456 = .ok (.dup, 1) := by decide +kernel
theorem dX1_init_457 : decode cX1_init 457 = .ok (.bipush 73, 2) := by decide +kernel
theorem dX1_init_459 : decode cX1_init 459 = .ok (.iconst 5, 1) := by decide +kernel
theorem dX1_init_460 : decode cX1_init 460 = .ok (.iastore, 1) := by decide +kernel
theorem dX1_init_461 : decode cX1_init 461 = .ok (.dup, 1) := by decide +kernel
theorem dX1_init_462 : decode cX1_init 462 = .ok (.bipush 74, 2) := by decide +kernel
theorem dX1_init_464 : decode cX1_init 464 = .ok (.iconst 4, 1) := by decide +kernel
theorem dX1_init_465 : decode cX1_init 465 = .ok (.iastore, 1) := by decide +kernel
theorem dX1_init_466 : decode cX1_init 466 = .ok (.dup, 1) := by decide +kernel
theorem dX1_init_467 : decode cX1_init 467 = .ok (.bipush 75, 2) := by decide +kernel
theorem dX1_init_469 : decode cX1_init 469 = .ok (.bipush 10, 2) := by decide +kernel
theorem dX1_init_471 : decode cX1_init 471 = .ok (.iastore, 1) := by decide +kernel
theorem dX1_init_472 : decode cX1_init 472 = .ok (.dup, 1) := by decide +kernel
theorem dX1_init_473 : decode cX1_init 473 = .ok (.bipush 76, 2) := by decide +kernel
theorem dX1_init_475 : decode cX1_init 475 = .ok (.bipush 9, 2) := by decide +kernel
theorem dX1_init_477 : decode cX1_init 477 = .ok (.iastore, 1) := by decide +kernel
theorem dX1_init_478 : decode cX1_init 478 = .ok (.dup, 1) := by decide +kernel
theorem dX1_init_479 : decode cX1_init 479 = .ok (.bipush 77, 2) := by decide +kernel
theorem dX1_init_481 : decode cX1_init 481 = .ok (.bipush 14, 2) := by decide +kernel
theorem dX1_init_483 : decode cX1_init 483 = .ok (.iastore, 1) := by decide +kernel
theorem dX1_init_484 : decode cX1_init 484 = .ok (.dup, 1) := by decide +kernel
theorem dX1_init_485 : decode cX1_init 485 = .ok (.bipush 78, 2) := by decide +kernel
theorem dX1_init_487 : decode cX1_init 487 = .ok (.bipush 7, 2) := by decide +kernel
theorem dX1_init_489 : decode cX1_init 489 = .ok (.iastore, 1) := by decide +kernel
theorem dX1_init_490 : decode cX1_init 490 = .ok (.dup, 1) := by decide +kernel
theorem dX1_init_491 : decode cX1_init 491 = .ok (.bipush 79, 2) := by decide +kernel
theorem dX1_init_493 : decode cX1_init 493 = .ok (.bipush 13, 2) := by decide +kernel
theorem dX1_init_495 : decode cX1_init 495 = .ok (.iastore, 1) := by decide +kernel
theorem dX1_init_496 : decode cX1_init 496 = .ok (.dup, 1) := by decide +kernel
theorem dX1_init_497 : decode cX1_init 497 = .ok (.bipush 80, 2) := by decide +kernel
theorem dX1_init_499 : decode cX1_init 499 = .ok (.bipush 15, 2) := by decide +kernel
theorem dX1_init_501 : decode cX1_init 501 = .ok (.iastore, 1) := by decide +kernel
theorem dX1_init_502 : decode cX1_init 502 = .ok (.dup, 1) := by decide +kernel
theorem dX1_init_503 : decode cX1_init 503 = .ok (.bipush 81, 2) := by decide +kernel
theorem dX1_init_505 : decode cX1_init 505 = .ok (.iconst 5, 1) := by decide +kernel
theorem dX1_init_506 : decode cX1_init 506 = .ok (.iastore, 1) := by decide +kernel
theorem dX1_init_507 : decode cX1_init 507 = .ok (.dup, 1) := by decide +kernel
theorem dX1_init_508 : decode cX1_init 508 = .ok (.bipush 82, 2) := by decide +kernel
theorem dX1_init_510 : decode cX1_init 510 = .ok (.iconst 2, 1) := by decide +kernel
theorem dX1_init_511 : decode cX1_init 511 = .ok (.iastore, 1) := by decide +kernel
theorem dX1_init_512 : decode cX1_init 512 = .ok (.dup, 1) := by decide +kernel
theorem dX1_init_513 : decode cX1_init 513 = .ok (.bipush 83, 2) := by decide +kernel
theorem dX1_init_515 : decode cX1_init 515 = .ok (.bipush 11, 2) := by decide +kernel
theorem dX1_init_517 : decode cX1_init 517 = .ok (.iastore, 1) := by decide +kernel
theorem dX1_init_518 : decode cX1_init 518 = .ok (.dup, 1) := by decide +kernel
theorem dX1_init_519 : decode cX1_init 519 = .ok (.bipush 84, 2) := by decide +kernel
theorem dX1_init_521 : decode cX1_init 521 = .ok (.iconst 4, 1) := by decide +kernel
theorem dX1_init_522 : decode cX1_init 522 = .ok (.iastore, 1) := by decide +kernel
theorem dX1_init_523 : decode cX1_init 523 = .ok (.dup, 1) := by decide +kernel
theorem dX1_init_524 : decode cX1_init 524 = .ok (.bipush 85, 2) := by decide +kernel
theorem dX1_init_526 : decode cX1_init 526 = .ok (.bipush 10, 2) := by decide +kernel
theorem dX1_init_528 : decode cX1_init 528 = .ok (.iastore, 1) := by decide +kernel
theorem dX1_init_529 : decode cX1_init 529 = .ok (.dup, 1) := by decide +kernel
theorem dX1_init_530 : decode cX1_init 530 = .ok (.bipush 86, 2) := by decide +kernel
theorem dX1_init_532 : decode cX1_init 532 = .ok (.bipush 9, 2) := by decide +kernel
theorem dX1_init_534 : decode cX1_init 534 = .ok (.iastore, 1) := by decide +kernel
theorem dX1_init_535 : decode cX1_init 535 = .ok (.dup, 1) := by decide +kernel
theorem dX1_init_536 : decode cX1_init 536 = .ok (.bipush 87, 2) := by decide +kernel
theorem dX1_init_538 : decode cX1_init 538 = .ok (.bipush 12, 2) := by decide +kernel
theorem dX1_init_540 : decode cX1_init 540 = .ok (.iastore, 1) := by decide +kernel
theorem dX1_init_541 : decode cX1_init 541 = .ok (.dup, 1) := by decide +kernel
theorem dX1_init_542 : decode cX1_init 542 = .ok (.bipush 88, 2) := by decide +kernel
theorem dX1_init_544 : decode cX1_init 544 = .ok (.iconst 0, 1) := by decide +kernel
theorem dX1_init_545 : decode cX1_init 545 = .ok (.iastore, 1) := by decide +kernel
theorem dX1_init_546 : decode cX1_init 546 = .ok (.dup, 1) := by decide +kernel
theorem dX1_init_547 : decode cX1_init 547 = .ok (.bipush 89, 2) := by decide +kernel
theorem dX1_init_549 : decode cX1_init 549 = .ok (.iconst 3, 1) := by decide +kernel
theorem dX1_init_550 : decode cX1_init 550 = .ok (.iastore, 1) := by decide +kernel
theorem dX1_init_551 : decode cX1_init 551 = .ok (.dup, 1) := by decide +kernel
theorem dX1_init_552 : decode cX1_init 552 = .ok (.bipush 90, 2) := by decide +kernel
theorem dX1_init_554 : decode cX1_init 554 = .ok (.bipush 14, 2) := by decide +kernel
theorem dX1_init_556 : decode cX1_init 556 = .ok (.iastore, 1) := by decide +kernel
theorem dX1_init_557 : decode cX1_init 557 = .ok (.dup, 1) := by decide +kernel
theorem dX1_init_558 : decode cX1_init 558 = .ok (.bipush 91, 2) := by decide +kernel
theorem dX1_init_560 : decode cX1_init 560 = .ok (.bipush 8, 2) := by decide +kernel
theorem dX1_init_562 : decode cX1_init 562 = .ok (.iastore, 1) := by decide +kernel
theorem dX1_init_563 : decode cX1_init 563 = .ok (.dup, 1) := by decide +kernel
theorem dX1_init_564 : decode cX1_init 564 = .ok (.bipush 92, 2) := by decide +kernel
theorem dX1_init_566 : decode cX1_init 566 = .ok (.bipush 13, 2) := by decide +kernel
theorem dX1_init_568 : decode cX1_init 568 = .ok (.iastore, 1) := by decide +kernel
theorem dX1_init_569 : decode cX1_init 569 = .ok (.dup, 1) := by decide +kernel
theorem dX1_init_570 : decode cX1_init 570 = .ok (.bipush 93, 2) := by decide +kernel
theorem dX1_init_572 : decode cX1_init 572 = .ok (.bipush 6, 2) := by decide +kernel
theorem dX1_init_574 : decode cX1_init 574 = .ok (.iastore, 1) := by decide +kernel
theorem dX1_init_575 : decode cX1_init 575 = .ok (.dup, 1) := by decide +kernel
theorem dX1_init_576 : decode cX1_init 576 = .ok (.bipush 94, 2) := by decide +kernel
theorem dX1_init_578 : decode cX1_init 578 = .ok (.bipush 7, 2) := by decide +kernel
theorem dX1_init_580 : decode cX1_init 580 = .ok (.iastore, 1) := by decide +kernel
theorem dX1_init_581 : decode cX1_init 581 = .ok (.dup, 1) := by decide +kernel
theorem dX1_init_582 : decode cX1_init 582 = .ok (.bipush 95, 2) := by decide +kernel
theorem dX1_init_584 : decode cX1_init 584 = .ok (.iconst 1, 1) := by decide +kernel
theorem dX1_init_585 : decode cX1_init 585 = .ok (.iastore, 1) := by decide +kernel
theorem dX1_init_586 : decode cX1_init 586 = .ok (.dup, 1) := by decide +kernel
theorem dX1_init_587 : decode cX1_init 587 = .ok (.bipush 96, 2) := by decide +kernel
theorem dX1_init_589 : decode cX1_init 589 = .ok (.bipush 7, 2) := by decide +kernel
theorem dX1_init_591 : decode cX1_init 591 = .ok (.iastore, 1) := by decide +kernel
theorem dX1_init_592 : decode cX1_init 592 = .ok (.dup, 1) := by decide +kernel
theorem dX1_init_593 : decode cX1_init 593 = .ok (.bipush 97, 2) := by decide +kernel
theorem dX1_init_595 : decode cX1_init 595 = .ok (.iconst 2, 1) := by decide +kernel
theorem dX1_init_596 : decode cX1_init 596 = .ok (.iastore, 1) := by decide +kernel
theorem dX1_init_597 : decode cX1_init 597 = .ok (.dup, 1) := by decide +kernel
theorem dX1_init_598 : decode cX1_init 598 = .ok (.bipush 98, 2) := by decide +kernel
theorem dX1_init_600 : decode cX1_init 600 = .ok (.bipush 12, 2) := by decide +kernel
theorem dX1_init_602 : decode cX1_init 602 = .ok (.iastore, 1) := by decide +kernel
theorem dX1_init_603 : decode cX1_init 603 = .ok (.dup, 1) := by decide +kernel
theorem dX1_init_604 : decode cX1_init 604 = .ok (.bipush 99, 2) := by decide +kernel
theorem dX1_init_606 : decode cX1_init 606 = .ok (.iconst 5, 1) := by decide +kernel
theorem dX1_init_607 : decode cX1_init 607 = .ok (.iastore, 1) := by decide +kernel
theorem dX1_init_608 : decode cX1_init 608 = .ok (.dup, 1) := by decide +kernel
theorem dX1_init_609 : decode cX1_init 609 = .ok (.bipush 100, 2) := by decide +kernel
theorem dX1_init_611 : decode cX1_init 611 = .ok (.bipush 8, 2) := by decide +kernel
theorem dX1_init_613 : decode cX1_init 613 = .ok (.iastore, 1) := by decide +kernel
theorem dX1_init_614 : decode cX1_init 614 = .ok (.dup, 1) := by decide +kernel
theorem dX1_init_615 : decode cX1_init 615 = .ok (.bipush 101, 2) := by decide +kernel
theorem dX1_init_617 : decode cX1_init 617 = .ok (.iconst 4, 1) := by decide +kernel
theorem dX1_init_618 : decode cX1_init 618 = .ok (.iastore, 1) := by decide +kernel
theorem dX1_init_619 : decode cX1_init 619 = .ok (.dup, 1) := by decide +kernel
theorem dX1_init_620 : decode cX1_init 620 = .ok (.bipush 102, 2) := by decide +kernel
theorem dX1_init_622 : decode cX1_init 622 = .ok (.bipush 6, 2) := by decide +kernel
theorem dX1_init_624 : decode cX1_init 624 = .ok (.iastore, 1) := by decide +kernel
theorem dX1_init_625 : decode cX1_init 625 = .ok (.dup, 1) := by decide +kernel
theorem dX1_init_626 : decode cX1_init 626 = .ok (.bipush 103, 2) := by decide +kernel
theorem dX1_init_628 : decode cX1_init 628 = .ok (.bipush 11, 2) := by decide +kernel
theorem dX1_init_630 : decode cX1_init 630 = .ok (.iastore, 1) := by decide +kernel
theorem dX1_init_631 : decode cX1_init 631 = .ok (.dup, 1) := by decide +kernel
theorem dX1_init_632 : decode cX1_init 632 = .ok (.bipush 104, 2) := by decide +kernel
theorem dX1_init_634 : decode cX1_init 634 = .ok (.bipush 14, 2) := by decide +kernel
theorem dX1_init_636 : decode cX1_init 636 = .ok (.iastore, 1) := by decide +kernel
theorem dX1_init_637 : decode cX1_init 637 = .ok (.dup, 1) := by decide +kernel
theorem dX1_init_638 : decode cX1_init 638 = .ok (.bipush 105, 2) := by decide +kernel
theorem dX1_init_640 : decode cX1_init 640 = .ok (.bipush 9, 2) := by decide +kernel
theorem dX1_init_642 : decode cX1_init 642 = .ok (.iastore, 1) := by decide +kernel
theorem dX1_init_643 : decode cX1_init 643 = .ok (.dup, 1) := by decide +kernel
theorem dX1_init_644 : decode cX1_init 644 = .ok (.bipush 106, 2) := by decide +kernel
theorem dX1_init_646 : decode cX1_init 646 = .ok (.iconst 1, 1) := by decide +kernel
theorem dX1_init_647 : decode cX1_init 647 = .ok (.iastore, 1) := by decide +kernel
theorem dX1_init_648 : decode cX1_init 648 = .ok (.dup, 1) := by decide +kernel
theorem dX1_init_649 : decode cX1_init 649 = .ok (.bipush 107, 2) := by decide +kernel
theorem dX1_init_651 : decode cX1_init 651 = .ok (.bipush 15, 2) := by decide +kernel
theorem dX1_init_653 : decode cX1_init 653 = .ok (.iastore, 1) := by decide +kernel
theorem dX1_init_654 : decode cX1_init 654 = .ok (.dup, 1) := by decide +kernel
theorem dX1_init_655 : decode cX1_init 655 = .ok (.bipush 108, 2) := by decide +kernel
theorem dX1_init_657 : decode cX1_init 657 = .ok (.bipush 13, 2) := by decide +kernel
theorem dX1_init_659 : decode cX1_init 659 = .ok (.iastore, 1) := by decide +kernel
theorem dX1_init_660 : decode cX1_init 660 = .ok (.dup, 1) := by decide +kernel
theorem dX1_init_661 : decode cX1_init 661 = .ok (.bipush 109, 2) := by decide +kernel
theorem dX1_init_663 : decode cX1_init 663 = .ok (.iconst 3, 1) := by decide +kernel
theorem dX1_init_664 : decode cX1_init 664 = .ok (.iastore, 1) := by decide +kernel
theorem dX1_init_665 : decode cX1_init 665 = .ok (.dup, 1) := by decide +kernel
theorem dX1_init_666 : decode cX1_init 666 = .ok (.bipush 110, 2) := by decide +kernel
theorem dX1_init_668 : decode cX1_init 668 = .ok (.bipush 10, 2) := by decide +kernel
theorem dX1_init_670 : decode cX1_init 670 = .ok (.iastore, 1) := by decide +kernel
theorem dX1_init_671 : decode cX1_init 671 = .ok (.dup, 1) := by decide +kernel
theorem dX1_init_672 : decode cX1_init 672 = .ok (.bipush 111, 2) := by decide +kernel
theorem dX1_init_674 : decode cX1_init 674 = .ok (.iconst 0, 1) := by decide +kernel
theorem dX1_init_675 : decode cX1_init 675 = .ok (.iastore, 1) := by decide +kernel
theorem dX1_init_676 : decode cX1_init 676 = .ok (.dup, 1) := by decide +kernel
theorem dX1_init_677 : decode cX1_init 677 = .ok (.bipush 112, 2) := by decide +kernel
theorem dX1_init_679 : decode cX1_init 679 = .ok (.iconst 1, 1) := by decide +kernel
theorem dX1_init_680 : decode cX1_init 680 = .ok (.iastore, 1) := by decide +kernel
theorem dX1_init_681 : decode cX1_init 681 = .ok (.dup, 1) := by decide +kernel
theorem dX1_init_682 : decode cX1_init 682 = .ok (.bipush 113, 2) := by decide +kernel
theorem dX1_init_684 : decode cX1_init 684 = .ok (.bipush 13, 2) := by decide +kernel
theorem dX1_init_686 : decode cX1_init 686 = .ok (.iastore, 1) := by decide +kernel
theorem dX1_init_687 : decode cX1_init 687 = .ok (.dup, 1) := by decide +kernel
theorem dX1_init_688 : decode cX1_init 688 = .ok (.bipush 114, 2) := by decide +kernel
theorem dX1_init_690 : decode cX1_init 690 = .ok (.bipush 15, 2) := by decide +kernel
theorem dX1_init_692 : decode cX1_init 692 = .ok (.iastore, 1) := by decide +kernel
theorem dX1_init_693 : decode cX1_init 693 = .ok (.dup, 1) := by decide +kernel
theorem dX1_init_694 : decode cX1_init 694 = .ok (.bipush 115, 2) := by decide +kernel
theorem dX1_init_696 : decode cX1_init 696 = .ok (.iconst 0, 1) := by decide +kernel
theorem dX1_init_697 : decode cX1_init 697 = .ok (.iastore, 1) := by decide +kernel
theorem dX1_init_698 : decode cX1_init 698 = .ok (.dup, 1) := by decide +kernel
theorem dX1_init_699 : decode cX1_init 699 = .ok (.bipush 116, 2) := by decide +kernel
theorem dX1_init_701 : decode cX1_init 701 = .ok (.bipush 14, 2) := by decide +kernel
theorem dX1_init_703 : decode cX1_init 703 = .ok (.iastore, 1) := by decide +kernel
theorem dX1_init_704 : decode cX1_init 704 = .ok (.dup, 1) := by decide +kernel
theorem dX1_init_705 : decode cX1_init 705 = .ok (.bipush 117, 2) := by decide +kernel
theorem dX1_init_707 : decode cX1_init 707 = .ok (.bipush 8, 2) := by decide +kernel
theorem dX1_init_709 : decode cX1_init 709 = .ok (.iastore, 1) := by decide +kernel
theorem dX1_init_710 : decode cX1_init 710 = .ok (.dup, 1) := by decide +kernel
theorem dX1_init_711 : decode cX1_init 711 = .ok (.bipush 118, 2) := by decide +kernel
theorem dX1_init_713 : decode cX1_init 713 = .ok (.iconst 2, 1) := by decide +kernel
theorem dX1_init_714 : decode cX1_init 714 = .ok (.iastore, 1) := by decide +kernel
theorem dX1_init_715 : decode cX1_init 715 = .ok (.dup, 1) := by decide +kernel
theorem dX1_init_716 : decode cX1_init 716 = .ok (.bipush 119, 2) := by decide +kernel
theorem dX1_init_718 : decode cX1_init 718 = .ok (.bipush 11, 2) := by decide +kernel
theorem dX1_init_720 : decode cX1_init 720 = .ok (.iastore, 1) := by decide +kernel
theorem dX1_init_721 : decode cX1_init 721 = .ok (.dup, 1) := by decide +kernel
theorem dX1_init_722 : decode cX1_init 722 = .ok (.bipush 120, 2) := by decide +kernel
theorem dX1_init_724 : decode cX1_init 724 = .ok (.bipush 7, 2) := by decide +kernel
theorem dX1_init_726 : decode cX1_init 726 = .ok (.iastore, 1) := by decide +kernel
theorem dX1_init_727 : decode cX1_init 727 = .ok (.dup, 1) := by decide +kernel
theorem dX1_init_728 : decode cX1_init 728 = .ok (.bipush 121, 2) := by decide +kernel
theorem dX1_init_730 : decode cX1_init 730 = .ok (.iconst 4, 1) := by decide +kernel
theorem dX1_init_731 : decode cX1_init 731 = .ok (.iastore, 1) := by decide +kernel
theorem dX1_init_732 : decode cX1_init 732 = .ok (.dup, 1) := by decide +kernel
theorem dX1_init_733 : decode cX1_init 733 = .ok (.bipush 122, 2) := by decide +kernel
theorem dX1_init_735 : decode cX1_init 735 = .ok (.bipush 12, 2) := by decide +kernel
theorem dX1_init_737 : decode cX1_init 737 = .ok (.iastore, 1) := by decide +kernel
theorem dX1_init_738 : decode cX1_init 738 = .ok (.dup, 1) := by decide +kernel
theorem dX1_init_739 : decode cX1_init 739 = .ok (.bipush 123, 2) := by decide +kernel
theorem dX1_init_741 : decode cX1_init 741 = .ok (.bipush 10, 2) := by decide +kernel
theorem dX1_init_743 : decode cX1_init 743 = .ok (.iastore, 1) := by decide +kernel
theorem dX1_init_744 : decode cX1_init 744 = .ok (.dup, 1) := by decide +kernel
theorem dX1_init_745 : decode cX1_init 745 = .ok (.bipush 124, 2) := by decide +kernel
theorem dX1_init_747 : decode cX1_init 747 = .ok (.bipush 9, 2) := by decide +kernel
theorem dX1_init_749 : decode cX1_init 749 = .ok (.iastore, 1) := by decide +kernel
theorem dX1_init_750 : decode cX1_init 750 = .ok (.dup, 1) := by decide +kernel
theorem dX1_init_751 : decode cX1_init 751 = .ok (.bipush 125, 2) := by decide +kernel
theorem dX1_init_753 : decode cX1_init 753 = .ok (.iconst 3, 1) := by decide +kernel
theorem dX1_init_754 : decode cX1_init 754 = .ok (.iastore, 1) := by decide +kernel
theorem dX1_init_755 : decode cX1_init 755 = .ok (.dup, 1) := by decide +kernel
theorem dX1_init_756 : decode cX1_init 756 = .ok (.bipush 126, 2) := by decide +kernel
theorem dX1_init_758 : decode cX1_init 758 = .ok (.iconst 5, 1) := by decide +kernel
theorem dX1_init_759 : decode cX1_init 759 = .ok (.iastore, 1) := by decide +kernel
theorem dX1_init_760 : decode cX1_init 760 = .ok (.dup, 1) := by decide +kernel
theorem dX1_init_761 : decode cX1_init 761 = .ok (.bipush 127, 2) := by decide +kernel
theorem dX1_init_763 : decode cX1_init 763 = .ok (.bipush 6, 2) := by decide +kernel
theorem dX1_init_765 : decode cX1_init 765 = .ok (.iastore, 1) := by decide +kernel
theorem dX1_init_766 : decode cX1_init 766 = .ok (.putfield 25, 3) := by decide +kernel
theorem dX1_init_769 : decode cX1_init 769 = .ok (.aload_n 0, 1) := by decide +kernel
theorem dX1_init_770 : decode cX1_init 770 = .ok (.iconst 4, 1) := by decide +kernel
theorem dX1_init_771 : decode cX1_init 771 = .ok (.newarray .int, 2) := by decide +kernel
theorem dX1_init_773 : decode cX1_init 773 = .ok (.putfield 28, 3) := by decide +kernel
theorem dX1_init_776 : decode cX1_init 776 = .ok (.aload_n 0, 1) := by decide +kernel
theorem dX1_init_777 : decode cX1_init 777 = .ok (.iconst 4, 1) := by decide +kernel
theorem dX1_init_778 : decode cX1_init 778 = .ok (.newarray .int, 2) := by decide +kernel
theorem dX1_init_780 : decode cX1_init 780 = .ok (.putfield 31, 3) := by decide +kernel
theorem dX1_init_783 : decode cX1_init 783 = .ok (.aload_n 0, 1) := by decide +kernel
theorem dX1_init_784 : decode cX1_init 784 = .ok (.iconst 4, 1) := by decide +kernel
theorem dX1_init_785 : decode cX1_init 785 = .ok (.newarray .int, 2) := by decide +kernel
theorem dX1_init_787 : decode cX1_init 787 = .ok (.putfield 34, 3) := by decide +kernel
theorem dX1_init_790 : decode cX1_init 790 = .ok (.aload_n 0, 1) := by decide +kernel
theorem dX1_init_791 : decode cX1_init 791 = .ok (.iconst 0, 1) := by decide +kernel
theorem dX1_init_792 : decode cX1_init 792 = .ok (.putfield 37, 3) := by decide +kernel
theorem dX1_init_795 : decode cX1_init 795 = .ok (.return_, 1) := by decide +kernel
theorem dX1_thrown_0 : decode cX1_thrown 0 = .ok (.aload_n 0, 1) := by decide +kernel
theorem dX1_thrown_1 : decode cX1_thrown 1 = .ok (.getfield 41, 3) := by decide +kernel
theorem dX1_thrown_4 : decode cX1_thrown 4 = .ok (.ireturn, 1) := by decide +kernel
theorem dX1_good_0 : decode cX1_good 0 = .ok (.aload_n 0, 1) := by decide +kernel
theorem dX1_good_1 : decode cX1_good 1 = .ok (.iload_n 1, 1) := by decide +kernel
theorem dX1_good_2 : decode cX1_good 2 = .ok (.ifCond .ne 7, 3) := by decide +kernel
theorem dX1_good_5 : decode cX1_good 5 = .ok (.iconst 1, 1) := by decide +kernel
theorem dX1_good_6 : decode cX1_good 6 = .ok (.goto 12, 3) := by decide +kernel
theorem dX1_good_9 : decode cX1_good 9 = .ok (.iload_n 2, 1) := by decide +kernel
theorem dX1_good_10 : decode cX1_good 10 = .ok (.ifCond .ne 7, 3) := by decide +kernel
theorem dX1_good_13 : decode cX1_good 13 = .ok (.iconst 2, 1) := by decide +kernel
theorem dX1_good_14 : decode cX1_good 14 = .ok (.goto 4, 3) := by decide +kernel
theorem dX1_good_17 : decode cX1_good 17 = .ok (.iconst 0, 1) := by decide +kernel
theorem dX1_good_18 : decode cX1_good 18 = .ok (.putfield 41, 3) := by decide +kernel
theorem dX1_good_21 : decode cX1_good 21 = .ok (.aload_n 0, 1) := by decide +kernel
theorem dX1_good_22 : decode cX1_good 22 = .ok (.getfield 41, 3) := by decide +kernel
theorem dX1_good_25 : decode cX1_good 25 = .ok (.ifCond .ne 7, 3) := by decide +kernel
theorem dX1_good_28 : decode cX1_good 28 = .ok (.iconst 1, 1) := by decide +kernel
theorem dX1_good_29 : decode cX1_good 29 = .ok (.goto 4, 3) := by decide +kernel
theorem dX1_good_32 : decode cX1_good 32 = .ok (.iconst 0, 1) := by decide +kernel
theorem dX1_good_33 : decode cX1_good 33 = .ok (.ireturn, 1) := by decide +kernel
theorem dX1_isIn_0 : decode cX1_isIn 0 = .ok (.iload_n 0, 1) := by decide +kernel
theorem dX1_isIn_1 : decode cX1_isIn 1 = .ok (.iload_n 1, 1) := by decide +kernel
theorem dX1_isIn_2 : decode cX1_isIn 2 = .ok (.if_icmp .lt 12, 3) := by decide +kernel
theorem dX1_isIn_5 : decode cX1_isIn 5 = .ok (.iload_n 0, 1) := by decide +kernel
theorem dX1_isIn_6 : decode cX1_isIn 6 = .ok (.iload_n 2, 1) := by decide +kernel
theorem dX1_isIn_7 : decode cX1_isIn 7 = .ok (.if_icmp .gt 7, 3) := by decide +kernel
theorem dX1_isIn_10 : decode cX1_isIn 10 = .ok (.iconst 1, 1) := by decide +kernel
theorem dX1_isIn_11 : decode cX1_isIn 11 = .ok (.goto 4, 3) := by decide +kernel
theorem dX1_isIn_14 : decode cX1_isIn 14 = .ok (.iconst 0, 1) := by decide +kernel
theorem dX1_isIn_15 : decode cX1_isIn 15 = .ok (.ireturn, 1) := by decide +kernel
theorem dX1_back_0 : decode cX1_back 0 = .ok (.iconst 0, 1) := by decide +kernel
theorem dX1_back_1 : decode cX1_back 1 = .ok (.istore_n 3, 1) := by decide +kernel
theorem dX1_back_2 : decode cX1_back 2 = .ok (.aload_n 0, 1) := by decide +kernel
theorem dX1_back_3 : decode cX1_back 3 = .ok (.getfield 25, 3) := by decide +kernel
theorem dX1_back_6 : decode cX1_back 6 = .ok (.bipush 16, 2) := by decide +kernel
theorem dX1_back_8 : decode cX1_back 8 = .ok (.iload_n 1, 1) := by decide +kernel
theorem dX1_back_9 : decode cX1_back 9 = .ok (.imul, 1) := by decide +kernel
theorem dX1_back_10 : decode cX1_back 10 = .ok (.iload_n 3, 1) := by decide +kernel
theorem dX1_back_11 : decode cX1_back 11 = .ok (.iadd, 1) := by decide +kernel
theorem dX1_back_12 : decode cX1_back 12 = .ok (.iaload, 1) := by decide +kernel
theorem dX1_back_13 : decode cX1_back 13 = .ok (.iload_n 2, 1) := by decide +kernel
theorem dX1_back_14 : decode cX1_back 14 = .ok (.if_icmp .eq 9, 3) := by decide +kernel
theorem dX1_back_17 : decode cX1_back 17 = .ok (.iinc 3 1, 3) := by decide +kernel
theorem dX1_back_20 : decode cX1_back 20 = .ok (.goto (-18), 3) := by decide +kernel
theorem dX1_back_23 : decode cX1_back 23 = .ok (.iload_n 3, 1) := by decide +kernel
end
section
theorem dX1_back_24 : decode cX1_back 24 = .ok (.ireturn, 1) := by decide +kernel
theorem dX1_through_0 : decode cX1_through 0 = .ok (.iconst 0, 1) := by decide +kernel
theorem dX1_through_1 : decode cX1_through 1 = .ok (.istore_n 3, 1) := by decide +kernel
theorem dX1_through_2 : decode cX1_through 2 = .ok (.iload_n 3, 1) := by decide +kernel
theorem dX1_through_3 : decode cX1_through 3 = .ok (.iconst 4, 1) := by decide +kernel
theorem dX1_through_4 : decode cX1_through 4 = .ok (.if_icmp .ge 16, 3) := by decide +kernel
theorem dX1_through_7 : decode cX1_through 7 = .ok (.aload_n 0, 1) := by decide +kernel
theorem dX1_through_8 : decode cX1_through 8 = .ok (.getfield 31, 3) := by decide +kernel
theorem dX1_through_11 : decode cX1_through 11 = .ok (.iload_n 3, 1) := by decide +kernel
theorem dX1_through_12 : decode cX1_through 12 = .ok (.iconst 0, 1) := by decide +kernel
theorem dX1_through_13 : decode cX1_through 13 = .ok (.iastore, 1) := by decide +kernel
theorem dX1_through_14 : decode cX1_through 14 = .ok (.iinc 3 1, 3) := by decide +kernel
theorem dX1_through_17 : decode cX1_through 17 = .ok (.goto (-15), 3) := by decide +kernel
theorem dX1_through_20 : decode cX1_through 20 = .ok (.iconst 0, 1) := by decide +kernel
theorem dX1_through_21 : decode cX1_through 21 = .ok (.istore_n 3, 1) := by decide +kernel
theorem dX1_through_22 : decode cX1_through 22 = .ok (.iload_n 3, 1) := by decide +kernel
theorem dX1_through_23 : decode cX1_through 23 = .ok (.bipush 32, 2) := by decide +kernel
theorem dX1_through_25 : decode cX1_through 25 = .ok (.if_icmp .ge 111, 3) := by decide +kernel
theorem dX1_through_28 : decode cX1_through 28 = .ok (.iconst 0, 1) := by decide +kernel
theorem dX1_through_29 : decode cX1_through 29 = .ok (.istore 4, 2) := by decide +kernel
theorem dX1_through_31 : decode cX1_through 31 = .ok (.iconst 3, 1) := by decide +kernel
theorem dX1_through_32 : decode cX1_through 32 = .ok (.istore 5, 2) := by decide +kernel
theorem dX1_through_34 : decode cX1_through 34 = .ok (.iload 5, 2) := by decide +kernel
theorem dX1_through_36 : decode cX1_through 36 = .ok (.ifCond .lt 27, 3) := by decide +kernel
theorem dX1_through_39 : decode cX1_through 39 = .ok (.iconst 2, 1) := by decide +kernel
theorem dX1_through_40 : decode cX1_through 40 = .ok (.iload 4, 2) := by decide +kernel
theorem dX1_through_42 : decode cX1_through 42 = .ok (.imul, 1) := by decide +kernel
theorem dX1_through_43 : decode cX1_through 43 = .ok (.aload_n 0, 1) := by decide +kernel
theorem dX1_through_44 : decode cX1_through 44 = .ok (.getfield 28, 3) := by decide +kernel
theorem dX1_through_47 : decode cX1_through 47 = .ok (.iload 5, 2) := by decide +kernel
theorem dX1_through_49 : decode cX1_through 49 = .ok (.iaload, 1) := by decide +kernel
theorem dX1_through_50 : decode cX1_through 50 = .ok (.iload_n 3, 1) := by decide +kernel
theorem dX1_through_51 : decode cX1_through 51 = .ok (.ishr, 1) := by decide +kernel
theorem dX1_through_52 : decode cX1_through 52 = .ok (.iconst 1, 1) := by decide +kernel
theorem dX1_through_53 : decode cX1_through 53 = .ok (.iand, 1) := by decide +kernel
theorem dX1_through_54 : decode cX1_through 54 = .ok (.iadd, 1) := by decide +kernel
theorem dX1_through_55 : decode cX1_through 55 = .ok (.istore 4, 2) := by decide +kernel
theorem dX1_through_57 : decode cX1_through 57 = .ok (.iinc 5 (-1), 3) := by decide +kernel
theorem dX1_through_60 : decode cX1_through 60 = .ok (.goto (-26), 3) := by decide +kernel
theorem dX1_through_63 : decode cX1_through 63 = .ok (.iload_n 2, 1) := by decide +kernel
theorem dX1_through_64 : decode cX1_through 64 = .ok (.ifCond .eq 13, 3) := by decide +kernel
theorem dX1_through_67 : decode cX1_through 67 = .ok (.aload_n 0, 1) := by decide +kernel
theorem dX1_through_68 : decode cX1_through 68 = .ok (.iload_n 1, 1) := by decide +kernel
theorem dX1_through_69 : decode cX1_through 69 = .ok (.iload 4, 2) := by decide +kernel
theorem dX1_through_71 : decode cX1_through 71 = .ok (.invokevirtual 44, 3) := by decide +kernel
theorem dX1_through_74 : decode cX1_through 74 = .ok (.goto 15, 3) := by decide +kernel
theorem dX1_through_77 : decode cX1_through 77 = .ok (.aload_n 0, 1) := by decide +kernel
theorem dX1_through_78 : decode cX1_through 78 = .ok (.getfield 25, 3) := by decide +kernel
theorem dX1_through_81 : decode cX1_through 81 = .ok (.bipush 16, 2) := by decide +kernel
theorem dX1_through_83 : decode cX1_through 83 = .ok (.iload_n 1, 1) := by decide +kernel
theorem dX1_through_84 : decode cX1_through 84 = .ok (.imul, 1) := by decide +kernel
theorem dX1_through_85 : decode cX1_through 85 = .ok (.iload 4, 2) := by decide +kernel
theorem dX1_through_87 : decode cX1_through 87 = .ok (.iadd, 1) := by decide +kernel
theorem dX1_through_88 : decode cX1_through 88 = .ok (.iaload, 1) := by decide +kernel
theorem dX1_through_89 : decode cX1_through 89 = .ok (.istore 5, 2) := by decide +kernel
theorem dX1_through_91 : decode cX1_through 91 = .ok (.iconst 0, 1) := by decide +kernel
theorem dX1_through_92 : decode cX1_through 92 = .ok (.istore 6, 2) := by decide +kernel
theorem dX1_through_94 : decode cX1_through 94 = .ok (.iload 6, 2) := by decide +kernel
theorem dX1_through_96 : decode cX1_through 96 = .ok (.iconst 4, 1) := by decide +kernel
theorem dX1_through_97 : decode cX1_through 97 = .ok (.if_icmp .ge 33, 3) := by decide +kernel
theorem dX1_through_100 : decode cX1_through 100 = .ok (.aload_n 0, 1) := by decide +kernel
theorem dX1_through_101 : decode cX1_through 101 = .ok (.getfield 31, 3) := by decide +kernel
theorem dX1_through_104 : decode cX1_through 104 = .ok (.iload 6, 2) := by decide +kernel
theorem dX1_through_106 : decode cX1_through 106 = .ok (.aload_n 0, 1) := by decide +kernel
theorem dX1_through_107 : decode cX1_through 107 = .ok (.getfield 31, 3) := by decide +kernel
theorem dX1_through_110 : decode cX1_through 110 = .ok (.iload 6, 2) := by decide +kernel
theorem dX1_through_112 : decode cX1_through 112 = .ok (.iaload, 1) := by decide +kernel
theorem dX1_through_113 : decode cX1_through 113 = .ok (.iload 5, 2) := by decide +kernel
theorem dX1_through_115 : decode cX1_through 115 = .ok (.iload 6, 2) := by decide +kernel
theorem dX1_through_117 : decode cX1_through 117 = .ok (.ishr, 1) := by decide +kernel
theorem dX1_through_118 : decode cX1_through 118 = .ok (.iconst 1, 1) := by decide +kernel
theorem dX1_through_119 : decode cX1_through 119 = .ok (.iand, 1) := by decide +kernel
theorem dX1_through_120 : decode cX1_through 120 = .ok (.iload_n 3, 1) := by decide +kernel
theorem dX1_through_121 : decode cX1_through 121 = .ok (.ishl, 1) := by decide +kernel
theorem dX1_through_122 : decode cX1_through 122 = .ok (.ior, 1) := by decide +kernel
theorem dX1_through_123 : decode cX1_through 123 = .ok (.iastore, 1) := by decide +kernel
theorem dX1_through_124 : decode cX1_through 124 = .ok (.iinc 6 1, 3) := by decide +kernel
theorem dX1_through_127 : decode cX1_through 127 = .ok (.goto (-33), 3) := by decide +kernel
theorem dX1_through_130 : decode cX1_through 130 = .ok (.iinc 3 1, 3) := by decide +kernel
theorem dX1_through_133 : decode cX1_through 133 = .ok (.goto (-111), 3) := by decide +kernel
theorem dX1_through_136 : decode cX1_through 136 = .ok (.iconst 0, 1) := by decide +kernel
theorem dX1_through_137 : decode cX1_through 137 = .ok (.istore_n 3, 1) := by decide +kernel
theorem dX1_through_138 : decode cX1_through 138 = .ok (.iload_n 3, 1) := by decide +kernel
theorem dX1_through_139 : decode cX1_through 139 = .ok (.iconst 4, 1) := by decide +kernel
theorem dX1_through_140 : decode cX1_through 140 = .ok (.if_icmp .ge 21, 3) := by decide +kernel
theorem dX1_through_143 : decode cX1_through 143 = .ok (.aload_n 0, 1) := by decide +kernel
theorem dX1_through_144 : decode cX1_through 144 = .ok (.getfield 28, 3) := by decide +kernel
theorem dX1_through_147 : decode cX1_through 147 = .ok (.iload_n 3, 1) := by decide +kernel
theorem dX1_through_148 : decode cX1_through 148 = .ok (.aload_n 0, 1) := by decide +kernel
theorem dX1_through_149 : decode cX1_through 149 = .ok (.getfield 31, 3) := by decide +kernel
theorem dX1_through_152 : decode cX1_through 152 = .ok (.iload_n 3, 1) := by decide +kernel
theorem dX1_through_153 : decode cX1_through 153 = .ok (.iaload, 1) := by decide +kernel
theorem dX1_through_154 : decode cX1_through 154 = .ok (.iastore, 1) := by decide +kernel
theorem dX1_through_155 : decode cX1_through 155 = .ok (.iinc 3 1, 3) := by decide +kernel
theorem dX1_through_158 : decode cX1_through 158 = .ok (.goto (-20), 3) := by decide +kernel
theorem dX1_through_161 : decode cX1_through 161 = .ok (.return_, 1) := by decide +kernel
theorem dX1_left_0 : decode cX1_left 0 = .ok (.iload_n 0, 1) := by decide +kernel
theorem dX1_left_1 : decode cX1_left 1 = .ok (.istore_n 2, 1) := by decide +kernel
theorem dX1_left_2 : decode cX1_left 2 = .ok (.iconst 0, 1) := by decide +kernel
theorem dX1_left_3 : decode cX1_left 3 = .ok (.istore_n 3, 1) := by decide +kernel
theorem dX1_left_4 : decode cX1_left 4 = .ok (.iload_n 3, 1) := by decide +kernel
theorem dX1_left_5 : decode cX1_left 5 = .ok (.iload_n 1, 1) := by decide +kernel
theorem dX1_left_6 : decode cX1_left 6 = .ok (.if_icmp .ge 23, 3) := by decide +kernel
theorem dX1_left_9 : decode cX1_left 9 = .ok (.iload_n 2, 1) := by decide +kernel
theorem dX1_left_10 : decode cX1_left 10 = .ok (.iload_n 2, 1) := by decide +kernel
theorem dX1_left_11 : decode cX1_left 11 = .ok (.iadd, 1) := by decide +kernel
theorem dX1_left_12 : decode cX1_left 12 = .ok (.iload_n 2, 1) := by decide +kernel
theorem dX1_left_13 : decode cX1_left 13 = .ok (.ifCond .ge 7, 3) := by decide +kernel
theorem dX1_left_16 : decode cX1_left 16 = .ok (.iconst 1, 1) := by decide +kernel
theorem dX1_left_17 : decode cX1_left 17 = .ok (.goto 4, 3) := by decide +kernel
theorem dX1_left_20 : decode cX1_left 20 = .ok (.iconst 0, 1) := by decide +kernel
theorem dX1_left_21 : decode cX1_left 21 = .ok (.iadd, 1) := by decide +kernel
theorem dX1_left_22 : decode cX1_left 22 = .ok (.istore_n 2, 1) := by decide +kernel
theorem dX1_left_23 : decode cX1_left 23 = .ok (.iinc 3 1, 3) := by decide +kernel
theorem dX1_left_26 : decode cX1_left 26 = .ok (.goto (-22), 3) := by decide +kernel
theorem dX1_left_29 : decode cX1_left 29 = .ok (.iload_n 2, 1) := by decide +kernel
theorem dX1_left_30 : decode cX1_left 30 = .ok (.ireturn, 1) := by decide +kernel
theorem dX1_right_0 : decode cX1_right 0 = .ok (.iload_n 0, 1) := by decide +kernel
theorem dX1_right_1 : decode cX1_right 1 = .ok (.bipush 32, 2) := by decide +kernel
theorem dX1_right_3 : decode cX1_right 3 = .ok (.iload_n 1, 1) := by decide +kernel
theorem dX1_right_4 : decode cX1_right 4 = .ok (.isub, 1) := by decide +kernel
theorem dX1_right_5 : decode cX1_right 5 = .ok (.invokestatic 48, 3) := by decide +kernel
theorem dX1_right_8 : decode cX1_right 8 = .ok (.ireturn, 1) := by decide +kernel
theorem dX1_key_0 : decode cX1_key 0 = .ok (.aload_n 0, 1) := by decide +kernel
theorem dX1_key_1 : decode cX1_key 1 = .ok (.iload_n 1, 1) := by decide +kernel
theorem dX1_key_2 : decode cX1_key 2 = .ok (.iconst 0, 1) := by decide +kernel
theorem dX1_key_3 : decode cX1_key 3 = .ok (.bipush 7, 2) := by decide +kernel
theorem dX1_key_5 : decode cX1_key 5 = .ok (.invokestatic 51, 3) := by decide +kernel
theorem dX1_key_8 : decode cX1_key 8 = .ok (.iconst 1, 1) := by decide +kernel
theorem dX1_key_9 : decode cX1_key 9 = .ok (.invokevirtual 55, 3) := by decide +kernel
theorem dX1_key_12 : decode cX1_key 12 = .ok (.ifCond .eq 15, 3) := by decide +kernel
theorem dX1_key_15 : decode cX1_key 15 = .ok (.aload_n 0, 1) := by decide +kernel
theorem dX1_key_16 : decode cX1_key 16 = .ok (.getfield 7, 3) := by decide +kernel
theorem dX1_key_19 : decode cX1_key 19 = .ok (.iload_n 1, 1) := by decide +kernel
theorem dX1_key_20 : decode cX1_key 20 = .ok (.iload_n 2, 1) := by decide +kernel
theorem dX1_key_21 : decode cX1_key 21 = .ok (.iastore, 1) := by decide +kernel
theorem dX1_key_22 : decode cX1_key 22 = .ok (.aload_n 0, 1) := by decide +kernel
theorem dX1_key_23 : decode cX1_key 23 = .ok (.iconst 0, 1) := by decide +kernel
theorem dX1_key_24 : decode cX1_key 24 = .ok (.putfield 59, 3) := by decide +kernel
theorem dX1_key_27 : decode cX1_key 27 = .ok (.return_, 1) := by decide +kernel
theorem dX1_size_0 : decode cX1_size 0 = .ok (.aload_n 0, 1) := by decide +kernel
theorem dX1_size_1 : decode cX1_size 1 = .ok (.iload_n 1, 1) := by decide +kernel
theorem dX1_size_2 : decode cX1_size 2 = .ok (.iconst 0, 1) := by decide +kernel
theorem dX1_size_3 : decode cX1_size 3 = .ok (.bipush 32, 2) := by decide +kernel
theorem dX1_size_5 : decode cX1_size 5 = .ok (.invokestatic 51, 3) := by decide +kernel
theorem dX1_size_8 : decode cX1_size 8 = .ok (.iconst 1, 1) := by decide +kernel
theorem dX1_size_9 : decode cX1_size 9 = .ok (.invokevirtual 55, 3) := by decide +kernel
theorem dX1_size_12 : decode cX1_size 12 = .ok (.ifCond .eq 13, 3) := by decide +kernel
theorem dX1_size_15 : decode cX1_size 15 = .ok (.aload_n 0, 1) := by decide +kernel
theorem dX1_size_16 : decode cX1_size 16 = .ok (.iload_n 1, 1) := by decide +kernel
theorem dX1_size_17 : decode cX1_size 17 = .ok (.putfield 63, 3) := by decide +kernel
theorem dX1_size_20 : decode cX1_size 20 = .ok (.aload_n 0, 1) := by decide +kernel
theorem dX1_size_21 : decode cX1_size 21 = .ok (.iconst 0, 1) := by decide +kernel
theorem dX1_size_22 : decode cX1_size 22 = .ok (.putfield 59, 3) := by decide +kernel
theorem dX1_size_25 : decode cX1_size 25 = .ok (.return_, 1) := by decide +kernel
theorem dX1_keyByte_0 : decode cX1_keyByte 0 = .ok (.iload_n 1, 1) := by decide +kernel
theorem dX1_keyByte_1 : decode cX1_keyByte 1 = .ok (.aload_n 0, 1) := by decide +kernel
theorem dX1_keyByte_2 : decode cX1_keyByte 2 = .ok (.getfield 63, 3) := by decide +kernel
theorem dX1_keyByte_5 : decode cX1_keyByte 5 = .ok (.if_icmp .ge 25, 3) := by decide +kernel
theorem dX1_keyByte_8 : decode cX1_keyByte 8 = .ok (.aload_n 0, 1) := by decide +kernel
theorem dX1_keyByte_9 : decode cX1_keyByte 9 = .ok (.getfield 7, 3) := by decide +kernel
theorem dX1_keyByte_12 : decode cX1_keyByte 12 = .ok (.iload_n 1, 1) := by decide +kernel
theorem dX1_keyByte_13 : decode cX1_keyByte 13 = .ok (.iconst 4, 1) := by decide +kernel
theorem dX1_keyByte_14 : decode cX1_keyByte 14 = .ok (.idiv, 1) := by decide +kernel
theorem dX1_keyByte_15 : decode cX1_keyByte 15 = .ok (.iaload, 1) := by decide +kernel
theorem dX1_keyByte_16 : decode cX1_keyByte 16 = .ok (.bipush 8, 2) := by decide +kernel
theorem dX1_keyByte_18 : decode cX1_keyByte 18 = .ok (.iload_n 1, 1) := by decide +kernel
theorem dX1_keyByte_19 : decode cX1_keyByte 19 = .ok (.iconst 4, 1) := by decide +kernel
theorem dX1_keyByte_20 : decode cX1_keyByte 20 = .ok (.irem, 1) := by decide +kernel
theorem dX1_keyByte_21 : decode cX1_keyByte 21 = .ok (.imul, 1) := by decide +kernel
theorem dX1_keyByte_22 : decode cX1_keyByte 22 = .ok (.ishr, 1) := by decide +kernel
theorem dX1_keyByte_23 : decode cX1_keyByte 23 = .ok (.sipush 255, 3) := by decide +kernel
theorem dX1_keyByte_26 : decode cX1_keyByte 26 = .ok (.iand, 1) := by decide +kernel
theorem dX1_keyByte_27 : decode cX1_keyByte 27 = .ok (.goto 16, 3) := by decide +kernel
theorem dX1_keyByte_30 : decode cX1_keyByte 30 = .ok (.iload_n 1, 1) := by decide +kernel
theorem dX1_keyByte_31 : decode cX1_keyByte 31 = .ok (.aload_n 0, 1) := by decide +kernel
theorem dX1_keyByte_32 : decode cX1_keyByte 32 = .ok (.getfield 63, 3) := by decide +kernel
theorem dX1_keyByte_35 : decode cX1_keyByte 35 = .ok (.if_icmp .ne 7, 3) := by decide +kernel
theorem dX1_keyByte_38 : decode cX1_keyByte 38 = .ok (.iconst 1, 1) := by decide +kernel
theorem dX1_keyByte_39 : decode cX1_keyByte 39 = .ok (.goto 4, 3) := by decide +kernel
theorem dX1_keyByte_42 : decode cX1_keyByte 42 = .ok (.iconst 0, 1) := by decide +kernel
theorem dX1_keyByte_43 : decode cX1_keyByte 43 = .ok (.ireturn, 1) := by decide +kernel
theorem dX1_ready_0 : decode cX1_ready 0 = .ok (.aload_n 0, 1) := by decide +kernel
theorem dX1_ready_1 : decode cX1_ready 1 = .ok (.iconst 0, 1) := by decide +kernel
theorem dX1_ready_2 : decode cX1_ready 2 = .ok (.putfield 41, 3) := by decide +kernel
theorem dX1_ready_5 : decode cX1_ready 5 = .ok (.iconst 0, 1) := by decide +kernel
theorem dX1_ready_6 : decode cX1_ready 6 = .ok (.istore_n 1, 1) := by decide +kernel
theorem dX1_ready_7 : decode cX1_ready 7 = .ok (.iload_n 1, 1) := by decide +kernel
theorem dX1_ready_8 : decode cX1_ready 8 = .ok (.bipush 8, 2) := by decide +kernel
theorem dX1_ready_10 : decode cX1_ready 10 = .ok (.if_icmp .ge 61, 3) := by decide +kernel
theorem dX1_ready_13 : decode cX1_ready 13 = .ok (.aload_n 0, 1) := by decide +kernel
theorem dX1_ready_14 : decode cX1_ready 14 = .ok (.getfield 13, 3) := by decide +kernel
theorem dX1_ready_17 : decode cX1_ready 17 = .ok (.iload_n 1, 1) := by decide +kernel
theorem dX1_ready_18 : decode cX1_ready 18 = .ok (.aload_n 0, 1) := by decide +kernel
theorem dX1_ready_19 : decode cX1_ready 19 = .ok (.iconst 4, 1) := by decide +kernel
theorem dX1_ready_20 : decode cX1_ready 20 = .ok (.iload_n 1, 1) := by decide +kernel
theorem dX1_ready_21 : decode cX1_ready 21 = .ok (.imul, 1) := by decide +kernel
theorem dX1_ready_22 : decode cX1_ready 22 = .ok (.invokevirtual 66, 3) := by decide +kernel
theorem dX1_ready_25 : decode cX1_ready 25 = .ok (.aload_n 0, 1) := by decide +kernel
theorem dX1_ready_26 : decode cX1_ready 26 = .ok (.iconst 4, 1) := by decide +kernel
theorem dX1_ready_27 : decode cX1_ready 27 = .ok (.iload_n 1, 1) := by decide +kernel
theorem dX1_ready_28 : decode cX1_ready 28 = .ok (.imul, 1) := by decide +kernel
theorem dX1_ready_29 : decode cX1_ready 29 = .ok (.iconst 1, 1) := by decide +kernel
theorem dX1_ready_30 : decode cX1_ready 30 = .ok (.iadd, 1) := by decide +kernel
theorem dX1_ready_31 : decode cX1_ready 31 = .ok (.invokevirtual 66, 3) := by decide +kernel
theorem dX1_ready_34 : decode cX1_ready 34 = .ok (.bipush 8, 2) := by decide +kernel
theorem dX1_ready_36 : decode cX1_ready 36 = .ok (.ishl, 1) := by decide +kernel
theorem dX1_ready_37 : decode cX1_ready 37 = .ok (.iadd, 1) := by decide +kernel
theorem dX1_ready_38 : decode cX1_ready 38 = .ok (.aload_n 0, 1) := by decide +kernel
theorem dX1_ready_39 : decode cX1_ready 39 = .ok (.iconst 4, 1) := by decide +kernel
theorem dX1_ready_40 : decode cX1_ready 40 = .ok (.iload_n 1, 1) := by decide +kernel
theorem dX1_ready_41 : decode cX1_ready 41 = .ok (.imul, 1) := by decide +kernel
theorem dX1_ready_42 : decode cX1_ready 42 = .ok (.iconst 2, 1) := by decide +kernel
theorem dX1_ready_43 : decode cX1_ready 43 = .ok (.iadd, 1) := by decide +kernel
theorem dX1_ready_44 : decode cX1_ready 44 = .ok (.invokevirtual 66, 3) := by decide +kernel
theorem dX1_ready_47 : decode cX1_ready 47 = .ok (.bipush 16, 2) := by decide +kernel
theorem dX1_ready_49 : decode cX1_ready 49 = .ok (.ishl, 1) := by decide +kernel
theorem dX1_ready_50 : decode cX1_ready 50 = .ok (.iadd, 1) := by decide +kernel
theorem dX1_ready_51 : decode cX1_ready 51 = .ok (.aload_n 0, 1) := by decide +kernel
theorem dX1_ready_52 : decode cX1_ready 52 = .ok (.iconst 4, 1) := by decide +kernel
theorem dX1_ready_53 : decode cX1_ready 53 = .ok (.iload_n 1, 1) := by decide +kernel
theorem dX1_ready_54 : decode cX1_ready 54 = .ok (.imul, 1) := by decide +kernel
theorem dX1_ready_55 : decode cX1_ready 55 = .ok (.iconst 3, 1) := by decide +kernel
theorem dX1_ready_56 : decode cX1_ready 56 = .ok (.iadd, 1) := by decide +kernel
theorem dX1_ready_57 : decode cX1_ready 57 = .ok (.invokevirtual 66, 3) := by decide +kernel
theorem dX1_ready_60 : decode cX1_ready 60 = .ok (.bipush 24, 2) := by decide +kernel
theorem dX1_ready_62 : decode cX1_ready 62 = .ok (.ishl, 1) := by decide +kernel
theorem dX1_ready_63 : decode cX1_ready 63 = .ok (.iadd, 1) := by decide +kernel
theorem dX1_ready_64 : decode cX1_ready 64 = .ok (.iastore, 1) := by decide +kernel
theorem dX1_ready_65 : decode cX1_ready 65 = .ok (.iinc 1 1, 3) := by decide +kernel
theorem dX1_ready_68 : decode cX1_ready 68 = .ok (.goto (-61), 3) := by decide +kernel
theorem dX1_ready_71 : decode cX1_ready 71 = .ok (.iconst 0, 1) := by decide +kernel
theorem dX1_ready_72 : decode cX1_ready 72 = .ok (.istore_n 1, 1) := by decide +kernel
theorem dX1_ready_73 : decode cX1_ready 73 = .ok (.iload_n 1, 1) := by decide +kernel
theorem dX1_ready_74 : decode cX1_ready 74 = .ok (.sipush 132, 3) := by decide +kernel
theorem dX1_ready_77 : decode cX1_ready 77 = .ok (.if_icmp .ge 62, 3) := by decide +kernel
theorem dX1_ready_80 : decode cX1_ready 80 = .ok (.aload_n 0, 1) := by decide +kernel
theorem dX1_ready_81 : decode cX1_ready 81 = .ok (.getfield 13, 3) := by decide +kernel
theorem dX1_ready_84 : decode cX1_ready 84 = .ok (.iload_n 1, 1) := by decide +kernel
theorem dX1_ready_85 : decode cX1_ready 85 = .ok (.bipush 8, 2) := by decide +kernel
theorem dX1_ready_87 : decode cX1_ready 87 = .ok (.iadd, 1) := by decide +kernel
theorem dX1_ready_88 : decode cX1_ready 88 = .ok (.aload_n 0, 1) := by decide +kernel
theorem dX1_ready_89 : decode cX1_ready 89 = .ok (.getfield 13, 3) := by decide +kernel
theorem dX1_ready_92 : decode cX1_ready 92 = .ok (.iload_n 1, 1) := by decide +kernel
theorem dX1_ready_93 : decode cX1_ready 93 = .ok (.iaload, 1) := by decide +kernel
theorem dX1_ready_94 : decode cX1_ready 94 = .ok (.aload_n 0, 1) := by decide +kernel
theorem dX1_ready_95 : decode cX1_ready 95 = .ok (.getfield 13, 3) := by decide +kernel
theorem dX1_ready_98 : decode cX1_ready 98 = .ok (.iload_n 1, 1) := by decide +kernel
theorem dX1_ready_99 : decode cX1_ready 99 = .ok (.iconst 3, 1) := by decide +kernel
theorem dX1_ready_100 : decode cX1_ready 100 = .ok (.iadd, 1) := by decide +kernel
theorem dX1_ready_101 : decode cX1_ready 101 = .ok (.iaload, 1) := by decide +kernel
theorem dX1_ready_102 : decode cX1_ready 102 = .ok (.ixor, 1) := by decide +kernel
theorem dX1_ready_103 : decode cX1_ready 103 = .ok (.aload_n 0, 1) := by decide +kernel
theorem dX1_ready_104 : decode cX1_ready 104 = .ok (.getfield 13, 3) := by decide +kernel
theorem dX1_ready_107 : decode cX1_ready 107 = .ok (.iload_n 1, 1) := by decide +kernel
theorem dX1_ready_108 : decode cX1_ready 108 = .ok (.iconst 5, 1) := by decide +kernel
theorem dX1_ready_109 : decode cX1_ready 109 = .ok (.iadd, 1) := by decide +kernel
theorem dX1_ready_110 : decode cX1_ready 110 = .ok (.iaload, 1) := by decide +kernel
theorem dX1_ready_111 : decode cX1_ready 111 = .ok (.ixor, 1) := by decide +kernel
theorem dX1_ready_112 : decode cX1_ready 112 = .ok (.aload_n 0, 1) := by decide +kernel
theorem dX1_ready_113 : decode cX1_ready 113 = .ok (.getfield 13, 3) := by decide +kernel
theorem dX1_ready_116 : decode cX1_ready 116 = .ok (.iload_n 1, 1) := by decide +kernel
theorem dX1_ready_117 : decode cX1_ready 117 = .ok (.bipush 7, 2) := by decide +kernel
theorem dX1_ready_119 : decode cX1_ready 119 = .ok (.iadd, 1) := by decide +kernel
theorem dX1_ready_120 : decode cX1_ready 120 = .ok (.iaload, 1) := by decide +kernel
theorem dX1_ready_121 : decode cX1_ready 121 = .ok (.ixor, 1) := by decide +kernel
theorem dX1_ready_122 : decode cX1_ready 122 = .ok (.ldc 70, 2) := by decide +kernel
theorem dX1_ready_124 : decode cX1_ready 124 = .ok (.ixor, 1) := by decide +kernel
theorem dX1_ready_125 : decode cX1_ready 125 = .ok (.iload_n 1, 1) := by decide +kernel
theorem dX1_ready_126 : decode cX1_ready 126 = .ok (.ixor, 1) := by decide +kernel
theorem dX1_ready_127 : decode cX1_ready 127 = .ok (.bipush 11, 2) := by decide +kernel
theorem dX1_ready_129 : decode cX1_ready 129 = .ok (.invokestatic 48, 3) := by decide +kernel
theorem dX1_ready_132 : decode cX1_ready 132 = .ok (.iastore, 1) := by decide +kernel
theorem dX1_ready_133 : decode cX1_ready 133 = .ok (.iinc 1 1, 3) := by decide +kernel
theorem dX1_ready_136 : decode cX1_ready 136 = .ok (.goto (-63), 3) := by decide +kernel
theorem dX1_ready_139 : decode cX1_ready 139 = .ok (.iconst 0, 1) := by decide +kernel
theorem dX1_ready_140 : decode cX1_ready 140 = .ok (.istore_n 1, 1) := by decide +kernel
theorem dX1_ready_141 : decode cX1_ready 141 = .ok (.iload_n 1, 1) := by decide +kernel
theorem dX1_ready_142 : decode cX1_ready 142 = .ok (.bipush 33, 2) := by decide +kernel
theorem dX1_ready_144 : decode cX1_ready 144 = .ok (.if_icmp .ge 82, 3) := by decide +kernel
theorem dX1_ready_147 : decode cX1_ready 147 = .ok (.iconst 0, 1) := by decide +kernel
theorem dX1_ready_148 : decode cX1_ready 148 = .ok (.istore_n 2, 1) := by decide +kernel
theorem dX1_ready_149 : decode cX1_ready 149 = .ok (.iload_n 2, 1) := by decide +kernel
theorem dX1_ready_150 : decode cX1_ready 150 = .ok (.iconst 4, 1) := by decide +kernel
theorem dX1_ready_151 : decode cX1_ready 151 = .ok (.if_icmp .ge 28, 3) := by decide +kernel
theorem dX1_ready_154 : decode cX1_ready 154 = .ok (.aload_n 0, 1) := by decide +kernel
theorem dX1_ready_155 : decode cX1_ready 155 = .ok (.getfield 28, 3) := by decide +kernel
theorem dX1_ready_158 : decode cX1_ready 158 = .ok (.iload_n 2, 1) := by decide +kernel
theorem dX1_ready_159 : decode cX1_ready 159 = .ok (.aload_n 0, 1) := by decide +kernel
theorem dX1_ready_160 : decode cX1_ready 160 = .ok (.getfield 13, 3) := by decide +kernel
theorem dX1_ready_163 : decode cX1_ready 163 = .ok (.bipush 8, 2) := by decide +kernel
theorem dX1_ready_165 : decode cX1_ready 165 = .ok (.iconst 4, 1) := by decide +kernel
theorem dX1_ready_166 : decode cX1_ready 166 = .ok (.iload_n 1, 1) := by decide +kernel
theorem dX1_ready_167 : decode cX1_ready 167 = .ok (.imul, 1) := by decide +kernel
theorem dX1_ready_168 : decode cX1_ready 168 = .ok (.iadd, 1) := by decide +kernel
theorem dX1_ready_169 : decode cX1_ready 169 = .ok (.iload_n 2, 1) := by decide +kernel
theorem dX1_ready_170 : decode cX1_ready 170 = .ok (.iadd, 1) := by decide +kernel
theorem dX1_ready_171 : decode cX1_ready 171 = .ok (.iaload, 1) := by decide +kernel
theorem dX1_ready_172 : decode cX1_ready 172 = .ok (.iastore, 1) := by decide +kernel
theorem dX1_ready_173 : decode cX1_ready 173 = .ok (.iinc 2 1, 3) := by decide +kernel
theorem dX1_ready_176 : decode cX1_ready 176 = .ok (.goto (-27), 3) := by decide +kernel
theorem dX1_ready_179 : decode cX1_ready 179 = .ok (.aload_n 0, 1) := by decide +kernel
theorem dX1_ready_180 : decode cX1_ready 180 = .ok (.bipush 35, 2) := by decide +kernel
theorem dX1_ready_182 : decode cX1_ready 182 = .ok (.iload_n 1, 1) := by decide +kernel
theorem dX1_ready_183 : decode cX1_ready 183 = .ok (.isub, 1) := by decide +kernel
theorem dX1_ready_184 : decode cX1_ready 184 = .ok (.bipush 8, 2) := by decide +kernel
theorem dX1_ready_186 : decode cX1_ready 186 = .ok (.irem, 1) := by decide +kernel
theorem dX1_ready_187 : decode cX1_ready 187 = .ok (.iconst 0, 1) := by decide +kernel
theorem dX1_ready_188 : decode cX1_ready 188 = .ok (.invokevirtual 71, 3) := by decide +kernel
theorem dX1_ready_191 : decode cX1_ready 191 = .ok (.iconst 0, 1) := by decide +kernel
theorem dX1_ready_192 : decode cX1_ready 192 = .ok (.istore_n 2, 1) := by decide +kernel
theorem dX1_ready_193 : decode cX1_ready 193 = .ok (.iload_n 2, 1) := by decide +kernel
theorem dX1_ready_194 : decode cX1_ready 194 = .ok (.iconst 4, 1) := by decide +kernel
theorem dX1_ready_195 : decode cX1_ready 195 = .ok (.if_icmp .ge 25, 3) := by decide +kernel
theorem dX1_ready_198 : decode cX1_ready 198 = .ok (.aload_n 0, 1) := by decide +kernel
theorem dX1_ready_199 : decode cX1_ready 199 = .ok (.getfield 16, 3) := by decide +kernel
theorem dX1_ready_202 : decode cX1_ready 202 = .ok (.iconst 4, 1) := by decide +kernel
theorem dX1_ready_203 : decode cX1_ready 203 = .ok (.iload_n 1, 1) := by decide +kernel
theorem dX1_ready_204 : decode cX1_ready 204 = .ok (.imul, 1) := by decide +kernel
theorem dX1_ready_205 : decode cX1_ready 205 = .ok (.iload_n 2, 1) := by decide +kernel
theorem dX1_ready_206 : decode cX1_ready 206 = .ok (.iadd, 1) := by decide +kernel
theorem dX1_ready_207 : decode cX1_ready 207 = .ok (.aload_n 0, 1) := by decide +kernel
theorem dX1_ready_208 : decode cX1_ready 208 = .ok (.getfield 28, 3) := by decide +kernel
theorem dX1_ready_211 : decode cX1_ready 211 = .ok (.iload_n 2, 1) := by decide +kernel
theorem dX1_ready_212 : decode cX1_ready 212 = .ok (.iaload, 1) := by decide +kernel
theorem dX1_ready_213 : decode cX1_ready 213 = .ok (.iastore, 1) := by decide +kernel
theorem dX1_ready_214 : decode cX1_ready 214 = .ok (.iinc 2 1, 3) := by decide +kernel
theorem dX1_ready_217 : decode cX1_ready 217 = .ok (.goto (-24), 3) := by decide +kernel
theorem dX1_ready_220 : decode cX1_ready 220 = .ok (.iinc 1 1, 3) := by decide +kernel
theorem dX1_ready_223 : decode cX1_ready 223 = .ok (.goto (-82), 3) := by decide +kernel
theorem dX1_ready_226 : decode cX1_ready 226 = .ok (.aload_n 0, 1) := by decide +kernel
theorem dX1_ready_227 : decode cX1_ready 227 = .ok (.iconst 1, 1) := by decide +kernel
theorem dX1_ready_228 : decode cX1_ready 228 = .ok (.putfield 59, 3) := by decide +kernel
theorem dX1_ready_231 : decode cX1_ready 231 = .ok (.return_, 1) := by decide +kernel
theorem dX1_round_0 : decode cX1_round 0 = .ok (.aload_n 0, 1) := by decide +kernel
theorem dX1_round_1 : decode cX1_round 1 = .ok (.iload_n 1, 1) := by decide +kernel
theorem dX1_round_2 : decode cX1_round 2 = .ok (.iconst 0, 1) := by decide +kernel
theorem dX1_round_3 : decode cX1_round 3 = .ok (.bipush 32, 2) := by decide +kernel
theorem dX1_round_5 : decode cX1_round 5 = .ok (.invokestatic 51, 3) := by decide +kernel
theorem dX1_round_8 : decode cX1_round 8 = .ok (.ifCond .eq 16, 3) := by decide +kernel
theorem dX1_round_11 : decode cX1_round 11 = .ok (.iload_n 2, 1) := by decide +kernel
theorem dX1_round_12 : decode cX1_round 12 = .ok (.iconst 0, 1) := by decide +kernel
theorem dX1_round_13 : decode cX1_round 13 = .ok (.iconst 3, 1) := by decide +kernel
theorem dX1_round_14 : decode cX1_round 14 = .ok (.invokestatic 51, 3) := by decide +kernel
theorem dX1_round_17 : decode cX1_round 17 = .ok (.ifCond .eq 7, 3) := by decide +kernel
theorem dX1_round_20 : decode cX1_round 20 = .ok (.iconst 1, 1) := by decide +kernel
theorem dX1_round_21 : decode cX1_round 21 = .ok (.goto 4, 3) := by decide +kernel
theorem dX1_round_24 : decode cX1_round 24 = .ok (.iconst 0, 1) := by decide +kernel
theorem dX1_round_25 : decode cX1_round 25 = .ok (.aload_n 0, 1) := by decide +kernel
theorem dX1_round_26 : decode cX1_round 26 = .ok (.getfield 59, 3) := by decide +kernel
theorem dX1_round_29 : decode cX1_round 29 = .ok (.invokevirtual 55, 3) := by decide +kernel
theorem dX1_round_32 : decode cX1_round 32 = .ok (.ifCond .eq 16, 3) := by decide +kernel
theorem dX1_round_35 : decode cX1_round 35 = .ok (.aload_n 0, 1) := by decide +kernel
theorem dX1_round_36 : decode cX1_round 36 = .ok (.getfield 16, 3) := by decide +kernel
theorem dX1_round_39 : decode cX1_round 39 = .ok (.iconst 4, 1) := by decide +kernel
theorem dX1_round_40 : decode cX1_round 40 = .ok (.iload_n 1, 1) := by decide +kernel
theorem dX1_round_41 : decode cX1_round 41 = .ok (.imul, 1) := by decide +kernel
theorem dX1_round_42 : decode cX1_round 42 = .ok (.iload_n 2, 1) := by decide +kernel
theorem dX1_round_43 : decode cX1_round 43 = .ok (.iadd, 1) := by decide +kernel
theorem dX1_round_44 : decode cX1_round 44 = .ok (.iaload, 1) := by decide +kernel
theorem dX1_round_45 : decode cX1_round 45 = .ok (.goto 4, 3) := by decide +kernel
theorem dX1_round_48 : decode cX1_round 48 = .ok (.iconst 0, 1) := by decide +kernel
theorem dX1_round_49 : decode cX1_round 49 = .ok (.ireturn, 1) := by decide +kernel
theorem dX1_box_0 : decode cX1_box 0 = .ok (.aload_n 0, 1) := by decide +kernel
theorem dX1_box_1 : decode cX1_box 1 = .ok (.iload_n 1, 1) := by decide +kernel
theorem dX1_box_2 : decode cX1_box 2 = .ok (.iconst 0, 1) := by decide +kernel
theorem dX1_box_3 : decode cX1_box 3 = .ok (.bipush 7, 2) := by decide +kernel
theorem dX1_box_5 : decode cX1_box 5 = .ok (.invokestatic 51, 3) := by decide +kernel
theorem dX1_box_8 : decode cX1_box 8 = .ok (.iload_n 2, 1) := by decide +kernel
theorem dX1_box_9 : decode cX1_box 9 = .ok (.iconst 0, 1) := by decide +kernel
theorem dX1_box_10 : decode cX1_box 10 = .ok (.bipush 15, 2) := by decide +kernel
theorem dX1_box_12 : decode cX1_box 12 = .ok (.invokestatic 51, 3) := by decide +kernel
theorem dX1_box_15 : decode cX1_box 15 = .ok (.invokevirtual 55, 3) := by decide +kernel
theorem dX1_box_18 : decode cX1_box 18 = .ok (.ifCond .ne 5, 3) := by decide +kernel
theorem dX1_box_21 : decode cX1_box 21 = .ok (.iconst 0, 1) := by decide +kernel
theorem dX1_box_22 : decode cX1_box 22 = .ok (.ireturn, 1) := by decide +kernel
theorem dX1_box_23 : decode cX1_box 23 = .ok (.iload_n 3, 1) := by decide +kernel
theorem dX1_box_24 : decode cX1_box 24 = .ok (.ifCond .eq 12, 3) := by decide +kernel
theorem dX1_box_27 : decode cX1_box 27 = .ok (.aload_n 0, 1) := by decide +kernel
theorem dX1_box_28 : decode cX1_box 28 = .ok (.iload_n 1, 1) := by decide +kernel
theorem dX1_box_29 : decode cX1_box 29 = .ok (.iload_n 2, 1) := by decide +kernel
theorem dX1_box_30 : decode cX1_box 30 = .ok (.invokevirtual 44, 3) := by decide +kernel
theorem dX1_box_33 : decode cX1_box 33 = .ok (.goto 14, 3) := by decide +kernel
theorem dX1_box_36 : decode cX1_box 36 = .ok (.aload_n 0, 1) := by decide +kernel
theorem dX1_box_37 : decode cX1_box 37 = .ok (.getfield 25, 3) := by decide +kernel
theorem dX1_box_40 : decode cX1_box 40 = .ok (.bipush 16, 2) := by decide +kernel
theorem dX1_box_42 : decode cX1_box 42 = .ok (.iload_n 1, 1) := by decide +kernel
theorem dX1_box_43 : decode cX1_box 43 = .ok (.imul, 1) := by decide +kernel
theorem dX1_box_44 : decode cX1_box 44 = .ok (.iload_n 2, 1) := by decide +kernel
theorem dX1_box_45 : decode cX1_box 45 = .ok (.iadd, 1) := by decide +kernel
theorem dX1_box_46 : decode cX1_box 46 = .ok (.iaload, 1) := by decide +kernel
theorem dX1_box_47 : decode cX1_box 47 = .ok (.ireturn, 1) := by decide +kernel
theorem dX1_start_0 : decode cX1_start 0 = .ok (.aload_n 0, 1) := by decide +kernel
theorem dX1_start_1 : decode cX1_start 1 = .ok (.iload_n 1, 1) := by decide +kernel
theorem dX1_start_2 : decode cX1_start 2 = .ok (.iconst 0, 1) := by decide +kernel
theorem dX1_start_3 : decode cX1_start 3 = .ok (.iconst 3, 1) := by decide +kernel
theorem dX1_start_4 : decode cX1_start 4 = .ok (.invokestatic 51, 3) := by decide +kernel
theorem dX1_start_7 : decode cX1_start 7 = .ok (.iconst 1, 1) := by decide +kernel
theorem dX1_start_8 : decode cX1_start 8 = .ok (.invokevirtual 55, 3) := by decide +kernel
theorem dX1_start_11 : decode cX1_start 11 = .ok (.ifCond .eq 10, 3) := by decide +kernel
theorem dX1_start_14 : decode cX1_start 14 = .ok (.aload_n 0, 1) := by decide +kernel
theorem dX1_start_15 : decode cX1_start 15 = .ok (.getfield 19, 3) := by decide +kernel
theorem dX1_start_18 : decode cX1_start 18 = .ok (.iload_n 1, 1) := by decide +kernel
theorem dX1_start_19 : decode cX1_start 19 = .ok (.iload_n 2, 1) := by decide +kernel
theorem dX1_start_20 : decode cX1_start 20 = .ok (.iastore, 1) := by decide +kernel
theorem dX1_start_21 : decode cX1_start 21 = .ok (.return_, 1) := by decide +kernel
theorem dX1_put_0 : decode cX1_put 0 = .ok (.aload_n 0, 1) := by decide +kernel
theorem dX1_put_1 : decode cX1_put 1 = .ok (.aload_n 0, 1) := by decide +kernel
theorem dX1_put_2 : decode cX1_put 2 = .ok (.getfield 37, 3) := by decide +kernel
theorem dX1_put_5 : decode cX1_put 5 = .ok (.sipush 252, 3) := by decide +kernel
theorem dX1_put_8 : decode cX1_put 8 = .ok (.if_icmp .gt 7, 3) := by decide +kernel
theorem dX1_put_11 : decode cX1_put 11 = .ok (.iconst 1, 1) := by decide +kernel
theorem dX1_put_12 : decode cX1_put 12 = .ok (.goto 4, 3) := by decide +kernel
theorem dX1_put_15 : decode cX1_put 15 = .ok (.iconst 0, 1) := by decide +kernel
theorem dX1_put_16 : decode cX1_put 16 = .ok (.iconst 1, 1) := by decide +kernel
theorem dX1_put_17 : decode cX1_put 17 = .ok (.invokevirtual 55, 3) := by decide +kernel
theorem dX1_put_20 : decode cX1_put 20 = .ok (.ifCond .ne 5, 3) := by decide +kernel
theorem dX1_put_23 : decode cX1_put 23 = .ok (.iconst 0, 1) := by decide +kernel
theorem dX1_put_24 : decode cX1_put 24 = .ok (.ireturn, 1) := by decide +kernel
theorem dX1_put_25 : decode cX1_put 25 = .ok (.aload_n 0, 1) := by decide +kernel
theorem dX1_put_26 : decode cX1_put 26 = .ok (.getfield 22, 3) := by decide +kernel
theorem dX1_put_29 : decode cX1_put 29 = .ok (.aload_n 0, 1) := by decide +kernel
theorem dX1_put_30 : decode cX1_put 30 = .ok (.getfield 37, 3) := by decide +kernel
theorem dX1_put_33 : decode cX1_put 33 = .ok (.iload_n 1, 1) := by decide +kernel
theorem dX1_put_34 : decode cX1_put 34 = .ok (.iastore, 1) := by decide +kernel
theorem dX1_put_35 : decode cX1_put 35 = .ok (.aload_n 0, 1) := by decide +kernel
theorem dX1_put_36 : decode cX1_put 36 = .ok (.getfield 22, 3) := by decide +kernel
theorem dX1_put_39 : decode cX1_put 39 = .ok (.aload_n 0, 1) := by decide +kernel
theorem dX1_put_40 : decode cX1_put 40 = .ok (.getfield 37, 3) := by decide +kernel
theorem dX1_put_43 : decode cX1_put 43 = .ok (.iconst 1, 1) := by decide +kernel
theorem dX1_put_44 : decode cX1_put 44 = .ok (.iadd, 1) := by decide +kernel
theorem dX1_put_45 : decode cX1_put 45 = .ok (.iload_n 2, 1) := by decide +kernel
theorem dX1_put_46 : decode cX1_put 46 = .ok (.iastore, 1) := by decide +kernel
theorem dX1_put_47 : decode cX1_put 47 = .ok (.aload_n 0, 1) := by decide +kernel
theorem dX1_put_48 : decode cX1_put 48 = .ok (.getfield 22, 3) := by decide +kernel
theorem dX1_put_51 : decode cX1_put 51 = .ok (.aload_n 0, 1) := by decide +kernel
theorem dX1_put_52 : decode cX1_put 52 = .ok (.getfield 37, 3) := by decide +kernel
theorem dX1_put_55 : decode cX1_put 55 = .ok (.iconst 2, 1) := by decide +kernel
theorem dX1_put_56 : decode cX1_put 56 = .ok (.iadd, 1) := by decide +kernel
theorem dX1_put_57 : decode cX1_put 57 = .ok (.iload_n 3, 1) := by decide +kernel
theorem dX1_put_58 : decode cX1_put 58 = .ok (.iastore, 1) := by decide +kernel
theorem dX1_put_59 : decode cX1_put 59 = .ok (.aload_n 0, 1) := by decide +kernel
theorem dX1_put_60 : decode cX1_put 60 = .ok (.getfield 22, 3) := by decide +kernel
theorem dX1_put_63 : decode cX1_put 63 = .ok (.aload_n 0, 1) := by decide +kernel
theorem dX1_put_64 : decode cX1_put 64 = .ok (.getfield 37, 3) := by decide +kernel
theorem dX1_put_67 : decode cX1_put 67 = .ok (.iconst 3, 1) := by decide +kernel
theorem dX1_put_68 : decode cX1_put 68 = .ok (.iadd, 1) := by decide +kernel
theorem dX1_put_69 : decode cX1_put 69 = .ok (.iload 4, 2) := by decide +kernel
theorem dX1_put_71 : decode cX1_put 71 = .ok (.iastore, 1) := by decide +kernel
theorem dX1_put_72 : decode cX1_put 72 = .ok (.aload_n 0, 1) := by decide +kernel
theorem dX1_put_73 : decode cX1_put 73 = .ok (.aload_n 0, 1) := by decide +kernel
theorem dX1_put_74 : decode cX1_put 74 = .ok (.getfield 37, 3) := by decide +kernel
theorem dX1_put_77 : decode cX1_put 77 = .ok (.iconst 4, 1) := by decide +kernel
theorem dX1_put_78 : decode cX1_put 78 = .ok (.iadd, 1) := by decide +kernel
theorem dX1_put_79 : decode cX1_put 79 = .ok (.putfield 37, 3) := by decide +kernel
theorem dX1_put_82 : decode cX1_put 82 = .ok (.aload_n 0, 1) := by decide +kernel
theorem dX1_put_83 : decode cX1_put 83 = .ok (.getfield 37, 3) := by decide +kernel
theorem dX1_put_86 : decode cX1_put 86 = .ok (.ireturn, 1) := by decide +kernel
theorem dX1_cut_0 : decode cX1_cut 0 = .ok (.aload_n 0, 1) := by decide +kernel
theorem dX1_cut_1 : decode cX1_cut 1 = .ok (.iload_n 1, 1) := by decide +kernel
theorem dX1_cut_2 : decode cX1_cut 2 = .ok (.iconst 0, 1) := by decide +kernel
theorem dX1_cut_3 : decode cX1_cut 3 = .ok (.aload_n 0, 1) := by decide +kernel
theorem dX1_cut_4 : decode cX1_cut 4 = .ok (.getfield 37, 3) := by decide +kernel
theorem dX1_cut_7 : decode cX1_cut 7 = .ok (.invokestatic 51, 3) := by decide +kernel
theorem dX1_cut_10 : decode cX1_cut 10 = .ok (.iconst 1, 1) := by decide +kernel
theorem dX1_cut_11 : decode cX1_cut 11 = .ok (.invokevirtual 55, 3) := by decide +kernel
theorem dX1_cut_14 : decode cX1_cut 14 = .ok (.ifCond .ne 5, 3) := by decide +kernel
theorem dX1_cut_17 : decode cX1_cut 17 = .ok (.iconst 0, 1) := by decide +kernel
theorem dX1_cut_18 : decode cX1_cut 18 = .ok (.ireturn, 1) := by decide +kernel
theorem dX1_cut_19 : decode cX1_cut 19 = .ok (.aload_n 0, 1) := by decide +kernel
theorem dX1_cut_20 : decode cX1_cut 20 = .ok (.iload_n 1, 1) := by decide +kernel
theorem dX1_cut_21 : decode cX1_cut 21 = .ok (.putfield 37, 3) := by decide +kernel
theorem dX1_cut_24 : decode cX1_cut 24 = .ok (.iload_n 1, 1) := by decide +kernel
theorem dX1_cut_25 : decode cX1_cut 25 = .ok (.ireturn, 1) := by decide +kernel
theorem dX1_word_0 : decode cX1_word 0 = .ok (.aload_n 0, 1) := by decide +kernel
theorem dX1_word_1 : decode cX1_word 1 = .ok (.iload_n 1, 1) := by decide +kernel
theorem dX1_word_2 : decode cX1_word 2 = .ok (.iconst 0, 1) := by decide +kernel
theorem dX1_word_3 : decode cX1_word 3 = .ok (.aload_n 0, 1) := by decide +kernel
theorem dX1_word_4 : decode cX1_word 4 = .ok (.getfield 37, 3) := by decide +kernel
theorem dX1_word_7 : decode cX1_word 7 = .ok (.iconst 1, 1) := by decide +kernel
theorem dX1_word_8 : decode cX1_word 8 = .ok (.isub, 1) := by decide +kernel
theorem dX1_word_9 : decode cX1_word 9 = .ok (.invokestatic 51, 3) := by decide +kernel
theorem dX1_word_12 : decode cX1_word 12 = .ok (.iconst 1, 1) := by decide +kernel
theorem dX1_word_13 : decode cX1_word 13 = .ok (.invokevirtual 55, 3) := by decide +kernel
theorem dX1_word_16 : decode cX1_word 16 = .ok (.ifCond .eq 12, 3) := by decide +kernel
theorem dX1_word_19 : decode cX1_word 19 = .ok (.aload_n 0, 1) := by decide +kernel
theorem dX1_word_20 : decode cX1_word 20 = .ok (.getfield 22, 3) := by decide +kernel
theorem dX1_word_23 : decode cX1_word 23 = .ok (.iload_n 1, 1) := by decide +kernel
theorem dX1_word_24 : decode cX1_word 24 = .ok (.iaload, 1) := by decide +kernel
theorem dX1_word_25 : decode cX1_word 25 = .ok (.goto 4, 3) := by decide +kernel
theorem dX1_word_28 : decode cX1_word 28 = .ok (.iconst 0, 1) := by decide +kernel
theorem dX1_word_29 : decode cX1_word 29 = .ok (.ireturn, 1) := by decide +kernel
theorem dX1_xor_0 : decode cX1_xor 0 = .ok (.iconst 0, 1) := by decide +kernel
theorem dX1_xor_1 : decode cX1_xor 1 = .ok (.istore_n 2, 1) := by decide +kernel
theorem dX1_xor_2 : decode cX1_xor 2 = .ok (.iload_n 2, 1) := by decide +kernel
theorem dX1_xor_3 : decode cX1_xor 3 = .ok (.iconst 4, 1) := by decide +kernel
theorem dX1_xor_4 : decode cX1_xor 4 = .ok (.if_icmp .ge 32, 3) := by decide +kernel
theorem dX1_xor_7 : decode cX1_xor 7 = .ok (.aload_n 0, 1) := by decide +kernel
theorem dX1_xor_8 : decode cX1_xor 8 = .ok (.getfield 28, 3) := by decide +kernel
theorem dX1_xor_11 : decode cX1_xor 11 = .ok (.iload_n 2, 1) := by decide +kernel
theorem dX1_xor_12 : decode cX1_xor 12 = .ok (.aload_n 0, 1) := by decide +kernel
theorem dX1_xor_13 : decode cX1_xor 13 = .ok (.getfield 28, 3) := by decide +kernel
theorem dX1_xor_16 : decode cX1_xor 16 = .ok (.iload_n 2, 1) := by decide +kernel
theorem dX1_xor_17 : decode cX1_xor 17 = .ok (.iaload, 1) := by decide +kernel
theorem dX1_xor_18 : decode cX1_xor 18 = .ok (.aload_n 0, 1) := by decide +kernel
theorem dX1_xor_19 : decode cX1_xor 19 = .ok (.getfield 16, 3) := by decide +kernel
theorem dX1_xor_22 : decode cX1_xor 22 = .ok (.iconst 4, 1) := by decide +kernel
theorem dX1_xor_23 : decode cX1_xor 23 = .ok (.iload_n 1, 1) := by decide +kernel
theorem dX1_xor_24 : decode cX1_xor 24 = .ok (.imul, 1) := by decide +kernel
theorem dX1_xor_25 : decode cX1_xor 25 = .ok (.iload_n 2, 1) := by decide +kernel
theorem dX1_xor_26 : decode cX1_xor 26 = .ok (.iadd, 1) := by decide +kernel
theorem dX1_xor_27 : decode cX1_xor 27 = .ok (.iaload, 1) := by decide +kernel
theorem dX1_xor_28 : decode cX1_xor 28 = .ok (.ixor, 1) := by decide +kernel
theorem dX1_xor_29 : decode cX1_xor 29 = .ok (.iastore, 1) := by decide +kernel
theorem dX1_xor_30 : decode cX1_xor 30 = .ok (.iinc 2 1, 3) := by decide +kernel
theorem dX1_xor_33 : decode cX1_xor 33 = .ok (.goto (-31), 3) := by decide +kernel
theorem dX1_xor_36 : decode cX1_xor 36 = .ok (.return_, 1) := by decide +kernel
theorem dX1_mix_0 : decode cX1_mix 0 = .ok (.aload_n 0, 1) := by decide +kernel
theorem dX1_mix_1 : decode cX1_mix 1 = .ok (.getfield 28, 3) := by decide +kernel
theorem dX1_mix_4 : decode cX1_mix 4 = .ok (.iconst 0, 1) := by decide +kernel
theorem dX1_mix_5 : decode cX1_mix 5 = .ok (.aload_n 0, 1) := by decide +kernel
theorem dX1_mix_6 : decode cX1_mix 6 = .ok (.getfield 28, 3) := by decide +kernel
theorem dX1_mix_9 : decode cX1_mix 9 = .ok (.iconst 0, 1) := by decide +kernel
theorem dX1_mix_10 : decode cX1_mix 10 = .ok (.iaload, 1) := by decide +kernel
theorem dX1_mix_11 : decode cX1_mix 11 = .ok (.bipush 13, 2) := by decide +kernel
theorem dX1_mix_13 : decode cX1_mix 13 = .ok (.invokestatic 48, 3) := by decide +kernel
theorem dX1_mix_16 : decode cX1_mix 16 = .ok (.iastore, 1) := by decide +kernel
theorem dX1_mix_17 : decode cX1_mix 17 = .ok (.aload_n 0, 1) := by decide +kernel
theorem dX1_mix_18 : decode cX1_mix 18 = .ok (.getfield 28, 3) := by decide +kernel
theorem dX1_mix_21 : decode cX1_mix 21 = .ok (.iconst 2, 1) := by decide +kernel
theorem dX1_mix_22 : decode cX1_mix 22 = .ok (.aload_n 0, 1) := by decide +kernel
theorem dX1_mix_23 : decode cX1_mix 23 = .ok (.getfield 28, 3) := by decide +kernel
theorem dX1_mix_26 : decode cX1_mix 26 = .ok (.iconst 2, 1) := by decide +kernel
theorem dX1_mix_27 : decode cX1_mix 27 = .ok (.iaload, 1) := by decide +kernel
theorem dX1_mix_28 : decode cX1_mix 28 = .ok (.iconst 3, 1) := by decide +kernel
theorem dX1_mix_29 : decode cX1_mix 29 = .ok (.invokestatic 48, 3) := by decide +kernel
theorem dX1_mix_32 : decode cX1_mix 32 = .ok (.iastore, 1) := by decide +kernel
theorem dX1_mix_33 : decode cX1_mix 33 = .ok (.aload_n 0, 1) := by decide +kernel
theorem dX1_mix_34 : decode cX1_mix 34 = .ok (.getfield 28, 3) := by decide +kernel
theorem dX1_mix_37 : decode cX1_mix 37 = .ok (.iconst 1, 1) := by decide +kernel
theorem dX1_mix_38 : decode cX1_mix 38 = .ok (.aload_n 0, 1) := by decide +kernel
theorem dX1_mix_39 : decode cX1_mix 39 = .ok (.getfield 28, 3) := by decide +kernel
theorem dX1_mix_42 : decode cX1_mix 42 = .ok (.iconst 1, 1) := by decide +kernel
theorem dX1_mix_43 : decode cX1_mix 43 = .ok (.iaload, 1) := by decide +kernel
theorem dX1_mix_44 : decode cX1_mix 44 = .ok (.aload_n 0, 1) := by decide +kernel
theorem dX1_mix_45 : decode cX1_mix 45 = .ok (.getfield 28, 3) := by decide +kernel
theorem dX1_mix_48 : decode cX1_mix 48 = .ok (.iconst 0, 1) := by decide +kernel
theorem dX1_mix_49 : decode cX1_mix 49 = .ok (.iaload, 1) := by decide +kernel
theorem dX1_mix_50 : decode cX1_mix 50 = .ok (.ixor, 1) := by decide +kernel
theorem dX1_mix_51 : decode cX1_mix 51 = .ok (.aload_n 0, 1) := by decide +kernel
theorem dX1_mix_52 : decode cX1_mix 52 = .ok (.getfield 28, 3) := by decide +kernel
theorem dX1_mix_55 : decode cX1_mix 55 = .ok (.iconst 2, 1) := by decide +kernel
theorem dX1_mix_56 : decode cX1_mix 56 = .ok (.iaload, 1) := by decide +kernel
theorem dX1_mix_57 : decode cX1_mix 57 = .ok (.ixor, 1) := by decide +kernel
theorem dX1_mix_58 : decode cX1_mix 58 = .ok (.iastore, 1) := by decide +kernel
theorem dX1_mix_59 : decode cX1_mix 59 = .ok (.aload_n 0, 1) := by decide +kernel
theorem dX1_mix_60 : decode cX1_mix 60 = .ok (.getfield 28, 3) := by decide +kernel
theorem dX1_mix_63 : decode cX1_mix 63 = .ok (.iconst 3, 1) := by decide +kernel
theorem dX1_mix_64 : decode cX1_mix 64 = .ok (.aload_n 0, 1) := by decide +kernel
theorem dX1_mix_65 : decode cX1_mix 65 = .ok (.getfield 28, 3) := by decide +kernel
theorem dX1_mix_68 : decode cX1_mix 68 = .ok (.iconst 3, 1) := by decide +kernel
theorem dX1_mix_69 : decode cX1_mix 69 = .ok (.iaload, 1) := by decide +kernel
theorem dX1_mix_70 : decode cX1_mix 70 = .ok (.aload_n 0, 1) := by decide +kernel
theorem dX1_mix_71 : decode cX1_mix 71 = .ok (.getfield 28, 3) := by decide +kernel
theorem dX1_mix_74 : decode cX1_mix 74 = .ok (.iconst 2, 1) := by decide +kernel
theorem dX1_mix_75 : decode cX1_mix 75 = .ok (.iaload, 1) := by decide +kernel
theorem dX1_mix_76 : decode cX1_mix 76 = .ok (.ixor, 1) := by decide +kernel
theorem dX1_mix_77 : decode cX1_mix 77 = .ok (.aload_n 0, 1) := by decide +kernel
theorem dX1_mix_78 : decode cX1_mix 78 = .ok (.getfield 28, 3) := by decide +kernel
theorem dX1_mix_81 : decode cX1_mix 81 = .ok (.iconst 0, 1) := by decide +kernel
theorem dX1_mix_82 : decode cX1_mix 82 = .ok (.iaload, 1) := by decide +kernel
theorem dX1_mix_83 : decode cX1_mix 83 = .ok (.bipush 8, 2) := by decide +kernel
theorem dX1_mix_85 : decode cX1_mix 85 = .ok (.imul, 1) := by decide +kernel
theorem dX1_mix_86 : decode cX1_mix 86 = .ok (.ixor, 1) := by decide +kernel
theorem dX1_mix_87 : decode cX1_mix 87 = .ok (.iastore, 1) := by decide +kernel
theorem dX1_mix_88 : decode cX1_mix 88 = .ok (.aload_n 0, 1) := by decide +kernel
theorem dX1_mix_89 : decode cX1_mix 89 = .ok (.getfield 28, 3) := by decide +kernel
theorem dX1_mix_92 : decode cX1_mix 92 = .ok (.iconst 1, 1) := by decide +kernel
theorem dX1_mix_93 : decode cX1_mix 93 = .ok (.aload_n 0, 1) := by decide +kernel
theorem dX1_mix_94 : decode cX1_mix 94 = .ok (.getfield 28, 3) := by decide +kernel
theorem dX1_mix_97 : decode cX1_mix 97 = .ok (.iconst 1, 1) := by decide +kernel
theorem dX1_mix_98 : decode cX1_mix 98 = .ok (.iaload, 1) := by decide +kernel
theorem dX1_mix_99 : decode cX1_mix 99 = .ok (.iconst 1, 1) := by decide +kernel
theorem dX1_mix_100 : decode cX1_mix 100 = .ok (.invokestatic 48, 3) := by decide +kernel
theorem dX1_mix_103 : decode cX1_mix 103 = .ok (.iastore, 1) := by decide +kernel
theorem dX1_mix_104 : decode cX1_mix 104 = .ok (.aload_n 0, 1) := by decide +kernel
theorem dX1_mix_105 : decode cX1_mix 105 = .ok (.getfield 28, 3) := by decide +kernel
theorem dX1_mix_108 : decode cX1_mix 108 = .ok (.iconst 3, 1) := by decide +kernel
theorem dX1_mix_109 : decode cX1_mix 109 = .ok (.aload_n 0, 1) := by decide +kernel
theorem dX1_mix_110 : decode cX1_mix 110 = .ok (.getfield 28, 3) := by decide +kernel
theorem dX1_mix_113 : decode cX1_mix 113 = .ok (.iconst 3, 1) := by decide +kernel
theorem dX1_mix_114 : decode cX1_mix 114 = .ok (.iaload, 1) := by decide +kernel
theorem dX1_mix_115 : decode cX1_mix 115 = .ok (.bipush 7, 2) := by decide +kernel
theorem dX1_mix_117 : decode cX1_mix 117 = .ok (.invokestatic 48, 3) := by decide +kernel
theorem dX1_mix_120 : decode cX1_mix 120 = .ok (.iastore, 1) := by decide +kernel
theorem dX1_mix_121 : decode cX1_mix 121 = .ok (.aload_n 0, 1) := by decide +kernel
theorem dX1_mix_122 : decode cX1_mix 122 = .ok (.getfield 28, 3) := by decide +kernel
theorem dX1_mix_125 : decode cX1_mix 125 = .ok (.iconst 0, 1) := by decide +kernel
theorem dX1_mix_126 : decode cX1_mix 126 = .ok (.aload_n 0, 1) := by decide +kernel
theorem dX1_mix_127 : decode cX1_mix 127 = .ok (.getfield 28, 3) := by decide +kernel
end
section
theorem dX1_mix_130 : decode cX1_mix 130 = .ok (.iconst 0, 1) := by decide +kernel
theorem dX1_mix_131 : decode cX1_mix 131 = .ok (.iaload, 1) := by decide +kernel
theorem dX1_mix_132 : decode cX1_mix 132 = .ok (.aload_n 0, 1) := by decide +kernel
theorem dX1_mix_133 : decode cX1_mix 133 = .ok (.getfield 28, 3) := by decide +kernel
theorem dX1_mix_136 : decode cX1_mix 136 = .ok (.iconst 1, 1) := by decide +kernel
theorem dX1_mix_137 : decode cX1_mix 137 = .ok (.iaload, 1) := by decide +kernel
theorem dX1_mix_138 : decode cX1_mix 138 = .ok (.ixor, 1) := by decide +kernel
theorem dX1_mix_139 : decode cX1_mix 139 = .ok (.aload_n 0, 1) := by decide +kernel
theorem dX1_mix_140 : decode cX1_mix 140 = .ok (.getfield 28, 3) := by decide +kernel
theorem dX1_mix_143 : decode cX1_mix 143 = .ok (.iconst 3, 1) := by decide +kernel
theorem dX1_mix_144 : decode cX1_mix 144 = .ok (.iaload, 1) := by decide +kernel
theorem dX1_mix_145 : decode cX1_mix 145 = .ok (.ixor, 1) := by decide +kernel
theorem dX1_mix_146 : decode cX1_mix 146 = .ok (.iastore, 1) := by decide +kernel
theorem dX1_mix_147 : decode cX1_mix 147 = .ok (.aload_n 0, 1) := by decide +kernel
theorem dX1_mix_148 : decode cX1_mix 148 = .ok (.getfield 28, 3) := by decide +kernel
theorem dX1_mix_151 : decode cX1_mix 151 = .ok (.iconst 2, 1) := by decide +kernel
theorem dX1_mix_152 : decode cX1_mix 152 = .ok (.aload_n 0, 1) := by decide +kernel
theorem dX1_mix_153 : decode cX1_mix 153 = .ok (.getfield 28, 3) := by decide +kernel
theorem dX1_mix_156 : decode cX1_mix 156 = .ok (.iconst 2, 1) := by decide +kernel
theorem dX1_mix_157 : decode cX1_mix 157 = .ok (.iaload, 1) := by decide +kernel
theorem dX1_mix_158 : decode cX1_mix 158 = .ok (.aload_n 0, 1) := by decide +kernel
theorem dX1_mix_159 : decode cX1_mix 159 = .ok (.getfield 28, 3) := by decide +kernel
theorem dX1_mix_162 : decode cX1_mix 162 = .ok (.iconst 3, 1) := by decide +kernel
theorem dX1_mix_163 : decode cX1_mix 163 = .ok (.iaload, 1) := by decide +kernel
theorem dX1_mix_164 : decode cX1_mix 164 = .ok (.ixor, 1) := by decide +kernel
theorem dX1_mix_165 : decode cX1_mix 165 = .ok (.aload_n 0, 1) := by decide +kernel
theorem dX1_mix_166 : decode cX1_mix 166 = .ok (.getfield 28, 3) := by decide +kernel
theorem dX1_mix_169 : decode cX1_mix 169 = .ok (.iconst 1, 1) := by decide +kernel
theorem dX1_mix_170 : decode cX1_mix 170 = .ok (.iaload, 1) := by decide +kernel
theorem dX1_mix_171 : decode cX1_mix 171 = .ok (.sipush 128, 3) := by decide +kernel
theorem dX1_mix_174 : decode cX1_mix 174 = .ok (.imul, 1) := by decide +kernel
theorem dX1_mix_175 : decode cX1_mix 175 = .ok (.ixor, 1) := by decide +kernel
theorem dX1_mix_176 : decode cX1_mix 176 = .ok (.iastore, 1) := by decide +kernel
theorem dX1_mix_177 : decode cX1_mix 177 = .ok (.aload_n 0, 1) := by decide +kernel
theorem dX1_mix_178 : decode cX1_mix 178 = .ok (.getfield 28, 3) := by decide +kernel
theorem dX1_mix_181 : decode cX1_mix 181 = .ok (.iconst 0, 1) := by decide +kernel
theorem dX1_mix_182 : decode cX1_mix 182 = .ok (.aload_n 0, 1) := by decide +kernel
theorem dX1_mix_183 : decode cX1_mix 183 = .ok (.getfield 28, 3) := by decide +kernel
theorem dX1_mix_186 : decode cX1_mix 186 = .ok (.iconst 0, 1) := by decide +kernel
theorem dX1_mix_187 : decode cX1_mix 187 = .ok (.iaload, 1) := by decide +kernel
theorem dX1_mix_188 : decode cX1_mix 188 = .ok (.iconst 5, 1) := by decide +kernel
theorem dX1_mix_189 : decode cX1_mix 189 = .ok (.invokestatic 48, 3) := by decide +kernel
theorem dX1_mix_192 : decode cX1_mix 192 = .ok (.iastore, 1) := by decide +kernel
theorem dX1_mix_193 : decode cX1_mix 193 = .ok (.aload_n 0, 1) := by decide +kernel
theorem dX1_mix_194 : decode cX1_mix 194 = .ok (.getfield 28, 3) := by decide +kernel
theorem dX1_mix_197 : decode cX1_mix 197 = .ok (.iconst 2, 1) := by decide +kernel
theorem dX1_mix_198 : decode cX1_mix 198 = .ok (.aload_n 0, 1) := by decide +kernel
theorem dX1_mix_199 : decode cX1_mix 199 = .ok (.getfield 28, 3) := by decide +kernel
theorem dX1_mix_202 : decode cX1_mix 202 = .ok (.iconst 2, 1) := by decide +kernel
theorem dX1_mix_203 : decode cX1_mix 203 = .ok (.iaload, 1) := by decide +kernel
theorem dX1_mix_204 : decode cX1_mix 204 = .ok (.bipush 22, 2) := by decide +kernel
theorem dX1_mix_206 : decode cX1_mix 206 = .ok (.invokestatic 48, 3) := by decide +kernel
theorem dX1_mix_209 : decode cX1_mix 209 = .ok (.iastore, 1) := by decide +kernel
theorem dX1_mix_210 : decode cX1_mix 210 = .ok (.return_, 1) := by decide +kernel
theorem dX1_unmix_0 : decode cX1_unmix 0 = .ok (.aload_n 0, 1) := by decide +kernel
theorem dX1_unmix_1 : decode cX1_unmix 1 = .ok (.getfield 28, 3) := by decide +kernel
theorem dX1_unmix_4 : decode cX1_unmix 4 = .ok (.iconst 2, 1) := by decide +kernel
theorem dX1_unmix_5 : decode cX1_unmix 5 = .ok (.aload_n 0, 1) := by decide +kernel
theorem dX1_unmix_6 : decode cX1_unmix 6 = .ok (.getfield 28, 3) := by decide +kernel
theorem dX1_unmix_9 : decode cX1_unmix 9 = .ok (.iconst 2, 1) := by decide +kernel
theorem dX1_unmix_10 : decode cX1_unmix 10 = .ok (.iaload, 1) := by decide +kernel
theorem dX1_unmix_11 : decode cX1_unmix 11 = .ok (.bipush 22, 2) := by decide +kernel
theorem dX1_unmix_13 : decode cX1_unmix 13 = .ok (.invokestatic 75, 3) := by decide +kernel
theorem dX1_unmix_16 : decode cX1_unmix 16 = .ok (.iastore, 1) := by decide +kernel
theorem dX1_unmix_17 : decode cX1_unmix 17 = .ok (.aload_n 0, 1) := by decide +kernel
theorem dX1_unmix_18 : decode cX1_unmix 18 = .ok (.getfield 28, 3) := by decide +kernel
theorem dX1_unmix_21 : decode cX1_unmix 21 = .ok (.iconst 0, 1) := by decide +kernel
theorem dX1_unmix_22 : decode cX1_unmix 22 = .ok (.aload_n 0, 1) := by decide +kernel
theorem dX1_unmix_23 : decode cX1_unmix 23 = .ok (.getfield 28, 3) := by decide +kernel
theorem dX1_unmix_26 : decode cX1_unmix 26 = .ok (.iconst 0, 1) := by decide +kernel
theorem dX1_unmix_27 : decode cX1_unmix 27 = .ok (.iaload, 1) := by decide +kernel
theorem dX1_unmix_28 : decode cX1_unmix 28 = .ok (.iconst 5, 1) := by decide +kernel
theorem dX1_unmix_29 : decode cX1_unmix 29 = .ok (.invokestatic 75, 3) := by decide +kernel
theorem dX1_unmix_32 : decode cX1_unmix 32 = .ok (.iastore, 1) := by decide +kernel
theorem dX1_unmix_33 : decode cX1_unmix 33 = .ok (.aload_n 0, 1) := by decide +kernel
theorem dX1_unmix_34 : decode cX1_unmix 34 = .ok (.getfield 28, 3) := by decide +kernel
theorem dX1_unmix_37 : decode cX1_unmix 37 = .ok (.iconst 2, 1) := by decide +kernel
theorem dX1_unmix_38 : decode cX1_unmix 38 = .ok (.aload_n 0, 1) := by decide +kernel
theorem dX1_unmix_39 : decode cX1_unmix 39 = .ok (.getfield 28, 3) := by decide +kernel
theorem dX1_unmix_42 : decode cX1_unmix 42 = .ok (.iconst 2, 1) := by decide +kernel
theorem dX1_unmix_43 : decode cX1_unmix 43 = .ok (.iaload, 1) := by decide +kernel
theorem dX1_unmix_44 : decode cX1_unmix 44 = .ok (.aload_n 0, 1) := by decide +kernel
theorem dX1_unmix_45 : decode cX1_unmix 45 = .ok (.getfield 28, 3) := by decide +kernel
theorem dX1_unmix_48 : decode cX1_unmix 48 = .ok (.iconst 3, 1) := by decide +kernel
theorem dX1_unmix_49 : decode cX1_unmix 49 = .ok (.iaload, 1) := by decide +kernel
theorem dX1_unmix_50 : decode cX1_unmix 50 = .ok (.ixor, 1) := by decide +kernel
theorem dX1_unmix_51 : decode cX1_unmix 51 = .ok (.aload_n 0, 1) := by decide +kernel
theorem dX1_unmix_52 : decode cX1_unmix 52 = .ok (.getfield 28, 3) := by decide +kernel
theorem dX1_unmix_55 : decode cX1_unmix 55 = .ok (.iconst 1, 1) := by decide +kernel
theorem dX1_unmix_56 : decode cX1_unmix 56 = .ok (.iaload, 1) := by decide +kernel
theorem dX1_unmix_57 : decode cX1_unmix 57 = .ok (.sipush 128, 3) := by decide +kernel
theorem dX1_unmix_60 : decode cX1_unmix 60 = .ok (.imul, 1) := by decide +kernel
theorem dX1_unmix_61 : decode cX1_unmix 61 = .ok (.ixor, 1) := by decide +kernel
theorem dX1_unmix_62 : decode cX1_unmix 62 = .ok (.iastore, 1) := by decide +kernel
theorem dX1_unmix_63 : decode cX1_unmix 63 = .ok (.aload_n 0, 1) := by decide +kernel
theorem dX1_unmix_64 : decode cX1_unmix 64 = .ok (.getfield 28, 3) := by decide +kernel
theorem dX1_unmix_67 : decode cX1_unmix 67 = .ok (.iconst 0, 1) := by decide +kernel
theorem dX1_unmix_68 : decode cX1_unmix 68 = .ok (.aload_n 0, 1) := by decide +kernel
theorem dX1_unmix_69 : decode cX1_unmix 69 = .ok (.getfield 28, 3) := by decide +kernel
theorem dX1_unmix_72 : decode cX1_unmix 72 = .ok (.iconst 0, 1) := by decide +kernel
theorem dX1_unmix_73 : decode cX1_unmix 73 = .ok (.iaload, 1) := by decide +kernel
theorem dX1_unmix_74 : decode cX1_unmix 74 = .ok (.aload_n 0, 1) := by decide +kernel
theorem dX1_unmix_75 : decode cX1_unmix 75 = .ok (.getfield 28, 3) := by decide +kernel
theorem dX1_unmix_78 : decode cX1_unmix 78 = .ok (.iconst 1, 1) := by decide +kernel
theorem dX1_unmix_79 : decode cX1_unmix 79 = .ok (.iaload, 1) := by decide +kernel
theorem dX1_unmix_80 : decode cX1_unmix 80 = .ok (.ixor, 1) := by decide +kernel
theorem dX1_unmix_81 : decode cX1_unmix 81 = .ok (.aload_n 0, 1) := by decide +kernel
theorem dX1_unmix_82 : decode cX1_unmix 82 = .ok (.getfield 28, 3) := by decide +kernel
theorem dX1_unmix_85 : decode cX1_unmix 85 = .ok (.iconst 3, 1) := by decide +kernel
theorem dX1_unmix_86 : decode cX1_unmix 86 = .ok (.iaload, 1) := by decide +kernel
theorem dX1_unmix_87 : decode cX1_unmix 87 = .ok (.ixor, 1) := by decide +kernel
theorem dX1_unmix_88 : decode cX1_unmix 88 = .ok (.iastore, 1) := by decide +kernel
theorem dX1_unmix_89 : decode cX1_unmix 89 = .ok (.aload_n 0, 1) := by decide +kernel
theorem dX1_unmix_90 : decode cX1_unmix 90 = .ok (.getfield 28, 3) := by decide +kernel
theorem dX1_unmix_93 : decode cX1_unmix 93 = .ok (.iconst 3, 1) := by decide +kernel
theorem dX1_unmix_94 : decode cX1_unmix 94 = .ok (.aload_n 0, 1) := by decide +kernel
theorem dX1_unmix_95 : decode cX1_unmix 95 = .ok (.getfield 28, 3) := by decide +kernel
theorem dX1_unmix_98 : decode cX1_unmix 98 = .ok (.iconst 3, 1) := by decide +kernel
theorem dX1_unmix_99 : decode cX1_unmix 99 = .ok (.iaload, 1) := by decide +kernel
theorem dX1_unmix_100 : decode cX1_unmix 100 = .ok (.bipush 7, 2) := by decide +kernel
theorem dX1_unmix_102 : decode cX1_unmix 102 = .ok (.invokestatic 75, 3) := by decide +kernel
theorem dX1_unmix_105 : decode cX1_unmix 105 = .ok (.iastore, 1) := by decide +kernel
theorem dX1_unmix_106 : decode cX1_unmix 106 = .ok (.aload_n 0, 1) := by decide +kernel
theorem dX1_unmix_107 : decode cX1_unmix 107 = .ok (.getfield 28, 3) := by decide +kernel
theorem dX1_unmix_110 : decode cX1_unmix 110 = .ok (.iconst 1, 1) := by decide +kernel
theorem dX1_unmix_111 : decode cX1_unmix 111 = .ok (.aload_n 0, 1) := by decide +kernel
theorem dX1_unmix_112 : decode cX1_unmix 112 = .ok (.getfield 28, 3) := by decide +kernel
theorem dX1_unmix_115 : decode cX1_unmix 115 = .ok (.iconst 1, 1) := by decide +kernel
theorem dX1_unmix_116 : decode cX1_unmix 116 = .ok (.iaload, 1) := by decide +kernel
theorem dX1_unmix_117 : decode cX1_unmix 117 = .ok (.iconst 1, 1) := by decide +kernel
theorem dX1_unmix_118 : decode cX1_unmix 118 = .ok (.invokestatic 75, 3) := by decide +kernel
theorem dX1_unmix_121 : decode cX1_unmix 121 = .ok (.iastore, 1) := by decide +kernel
theorem dX1_unmix_122 : decode cX1_unmix 122 = .ok (.aload_n 0, 1) := by decide +kernel
theorem dX1_unmix_123 : decode cX1_unmix 123 = .ok (.getfield 28, 3) := by decide +kernel
theorem dX1_unmix_126 : decode cX1_unmix 126 = .ok (.iconst 3, 1) := by decide +kernel
theorem dX1_unmix_127 : decode cX1_unmix 127 = .ok (.aload_n 0, 1) := by decide +kernel
theorem dX1_unmix_128 : decode cX1_unmix 128 = .ok (.getfield 28, 3) := by decide +kernel
theorem dX1_unmix_131 : decode cX1_unmix 131 = .ok (.iconst 3, 1) := by decide +kernel
theorem dX1_unmix_132 : decode cX1_unmix 132 = .ok (.iaload, 1) := by decide +kernel
theorem dX1_unmix_133 : decode cX1_unmix 133 = .ok (.aload_n 0, 1) := by decide +kernel
theorem dX1_unmix_134 : decode cX1_unmix 134 = .ok (.getfield 28, 3) := by decide +kernel
theorem dX1_unmix_137 : decode cX1_unmix 137 = .ok (.iconst 2, 1) := by decide +kernel
theorem dX1_unmix_138 : decode cX1_unmix 138 = .ok (.iaload, 1) := by decide +kernel
theorem dX1_unmix_139 : decode cX1_unmix 139 = .ok (.ixor, 1) := by decide +kernel
theorem dX1_unmix_140 : decode cX1_unmix 140 = .ok (.aload_n 0, 1) := by decide +kernel
theorem dX1_unmix_141 : decode cX1_unmix 141 = .ok (.getfield 28, 3) := by decide +kernel
theorem dX1_unmix_144 : decode cX1_unmix 144 = .ok (.iconst 0, 1) := by decide +kernel
theorem dX1_unmix_145 : decode cX1_unmix 145 = .ok (.iaload, 1) := by decide +kernel
theorem dX1_unmix_146 : decode cX1_unmix 146 = .ok (.bipush 8, 2) := by decide +kernel
theorem dX1_unmix_148 : decode cX1_unmix 148 = .ok (.imul, 1) := by decide +kernel
theorem dX1_unmix_149 : decode cX1_unmix 149 = .ok (.ixor, 1) := by decide +kernel
theorem dX1_unmix_150 : decode cX1_unmix 150 = .ok (.iastore, 1) := by decide +kernel
theorem dX1_unmix_151 : decode cX1_unmix 151 = .ok (.aload_n 0, 1) := by decide +kernel
theorem dX1_unmix_152 : decode cX1_unmix 152 = .ok (.getfield 28, 3) := by decide +kernel
theorem dX1_unmix_155 : decode cX1_unmix 155 = .ok (.iconst 1, 1) := by decide +kernel
theorem dX1_unmix_156 : decode cX1_unmix 156 = .ok (.aload_n 0, 1) := by decide +kernel
theorem dX1_unmix_157 : decode cX1_unmix 157 = .ok (.getfield 28, 3) := by decide +kernel
theorem dX1_unmix_160 : decode cX1_unmix 160 = .ok (.iconst 1, 1) := by decide +kernel
theorem dX1_unmix_161 : decode cX1_unmix 161 = .ok (.iaload, 1) := by decide +kernel
theorem dX1_unmix_162 : decode cX1_unmix 162 = .ok (.aload_n 0, 1) := by decide +kernel
theorem dX1_unmix_163 : decode cX1_unmix 163 = .ok (.getfield 28, 3) := by decide +kernel
theorem dX1_unmix_166 : decode cX1_unmix 166 = .ok (.iconst 0, 1) := by decide +kernel
theorem dX1_unmix_167 : decode cX1_unmix 167 = .ok (.iaload, 1) := by decide +kernel
theorem dX1_unmix_168 : decode cX1_unmix 168 = .ok (.ixor, 1) := by decide +kernel
theorem dX1_unmix_169 : decode cX1_unmix 169 = .ok (.aload_n 0, 1) := by decide +kernel
theorem dX1_unmix_170 : decode cX1_unmix 170 = .ok (.getfield 28, 3) := by decide +kernel
theorem dX1_unmix_173 : decode cX1_unmix 173 = .ok (.iconst 2, 1) := by decide +kernel
theorem dX1_unmix_174 : decode cX1_unmix 174 = .ok (.iaload, 1) := by decide +kernel
theorem dX1_unmix_175 : decode cX1_unmix 175 = .ok (.ixor, 1) := by decide +kernel
theorem dX1_unmix_176 : decode cX1_unmix 176 = .ok (.iastore, 1) := by decide +kernel
theorem dX1_unmix_177 : decode cX1_unmix 177 = .ok (.aload_n 0, 1) := by decide +kernel
theorem dX1_unmix_178 : decode cX1_unmix 178 = .ok (.getfield 28, 3) := by decide +kernel
theorem dX1_unmix_181 : decode cX1_unmix 181 = .ok (.iconst 2, 1) := by decide +kernel
theorem dX1_unmix_182 : decode cX1_unmix 182 = .ok (.aload_n 0, 1) := by decide +kernel
theorem dX1_unmix_183 : decode cX1_unmix 183 = .ok (.getfield 28, 3) := by decide +kernel
theorem dX1_unmix_186 : decode cX1_unmix 186 = .ok (.iconst 2, 1) := by decide +kernel
theorem dX1_unmix_187 : decode cX1_unmix 187 = .ok (.iaload, 1) := by decide +kernel
theorem dX1_unmix_188 : decode cX1_unmix 188 = .ok (.iconst 3, 1) := by decide +kernel
theorem dX1_unmix_189 : decode cX1_unmix 189 = .ok (.invokestatic 75, 3) := by decide +kernel
theorem dX1_unmix_192 : decode cX1_unmix 192 = .ok (.iastore, 1) := by decide +kernel
theorem dX1_unmix_193 : decode cX1_unmix 193 = .ok (.aload_n 0, 1) := by decide +kernel
theorem dX1_unmix_194 : decode cX1_unmix 194 = .ok (.getfield 28, 3) := by decide +kernel
theorem dX1_unmix_197 : decode cX1_unmix 197 = .ok (.iconst 0, 1) := by decide +kernel
theorem dX1_unmix_198 : decode cX1_unmix 198 = .ok (.aload_n 0, 1) := by decide +kernel
theorem dX1_unmix_199 : decode cX1_unmix 199 = .ok (.getfield 28, 3) := by decide +kernel
theorem dX1_unmix_202 : decode cX1_unmix 202 = .ok (.iconst 0, 1) := by decide +kernel
theorem dX1_unmix_203 : decode cX1_unmix 203 = .ok (.iaload, 1) := by decide +kernel
theorem dX1_unmix_204 : decode cX1_unmix 204 = .ok (.bipush 13, 2) := by decide +kernel
theorem dX1_unmix_206 : decode cX1_unmix 206 = .ok (.invokestatic 75, 3) := by decide +kernel
theorem dX1_unmix_209 : decode cX1_unmix 209 = .ok (.iastore, 1) := by decide +kernel
theorem dX1_unmix_210 : decode cX1_unmix 210 = .ok (.return_, 1) := by decide +kernel
theorem dX1_forth_0 : decode cX1_forth 0 = .ok (.iconst 0, 1) := by decide +kernel
theorem dX1_forth_1 : decode cX1_forth 1 = .ok (.istore_n 1, 1) := by decide +kernel
theorem dX1_forth_2 : decode cX1_forth 2 = .ok (.iload_n 1, 1) := by decide +kernel
theorem dX1_forth_3 : decode cX1_forth 3 = .ok (.bipush 32, 2) := by decide +kernel
theorem dX1_forth_5 : decode cX1_forth 5 = .ok (.if_icmp .ge 33, 3) := by decide +kernel
theorem dX1_forth_8 : decode cX1_forth 8 = .ok (.aload_n 0, 1) := by decide +kernel
theorem dX1_forth_9 : decode cX1_forth 9 = .ok (.iload_n 1, 1) := by decide +kernel
theorem dX1_forth_10 : decode cX1_forth 10 = .ok (.invokevirtual 78, 3) := by decide +kernel
theorem dX1_forth_13 : decode cX1_forth 13 = .ok (.aload_n 0, 1) := by decide +kernel
theorem dX1_forth_14 : decode cX1_forth 14 = .ok (.iload_n 1, 1) := by decide +kernel
theorem dX1_forth_15 : decode cX1_forth 15 = .ok (.bipush 8, 2) := by decide +kernel
theorem dX1_forth_17 : decode cX1_forth 17 = .ok (.irem, 1) := by decide +kernel
theorem dX1_forth_18 : decode cX1_forth 18 = .ok (.iconst 0, 1) := by decide +kernel
theorem dX1_forth_19 : decode cX1_forth 19 = .ok (.invokevirtual 71, 3) := by decide +kernel
theorem dX1_forth_22 : decode cX1_forth 22 = .ok (.iload_n 1, 1) := by decide +kernel
theorem dX1_forth_23 : decode cX1_forth 23 = .ok (.bipush 31, 2) := by decide +kernel
theorem dX1_forth_25 : decode cX1_forth 25 = .ok (.if_icmp .ge 7, 3) := by decide +kernel
theorem dX1_forth_28 : decode cX1_forth 28 = .ok (.aload_n 0, 1) := by decide +kernel
theorem dX1_forth_29 : decode cX1_forth 29 = .ok (.invokevirtual 82, 3) := by decide +kernel
theorem dX1_forth_32 : decode cX1_forth 32 = .ok (.iinc 1 1, 3) := by decide +kernel
theorem dX1_forth_35 : decode cX1_forth 35 = .ok (.goto (-33), 3) := by decide +kernel
theorem dX1_forth_38 : decode cX1_forth 38 = .ok (.aload_n 0, 1) := by decide +kernel
theorem dX1_forth_39 : decode cX1_forth 39 = .ok (.bipush 32, 2) := by decide +kernel
theorem dX1_forth_41 : decode cX1_forth 41 = .ok (.invokevirtual 78, 3) := by decide +kernel
theorem dX1_forth_44 : decode cX1_forth 44 = .ok (.return_, 1) := by decide +kernel
theorem dX1_undo_0 : decode cX1_undo 0 = .ok (.aload_n 0, 1) := by decide +kernel
theorem dX1_undo_1 : decode cX1_undo 1 = .ok (.bipush 32, 2) := by decide +kernel
theorem dX1_undo_3 : decode cX1_undo 3 = .ok (.invokevirtual 78, 3) := by decide +kernel
theorem dX1_undo_6 : decode cX1_undo 6 = .ok (.bipush 31, 2) := by decide +kernel
theorem dX1_undo_8 : decode cX1_undo 8 = .ok (.istore_n 1, 1) := by decide +kernel
theorem dX1_undo_9 : decode cX1_undo 9 = .ok (.iload_n 1, 1) := by decide +kernel
theorem dX1_undo_10 : decode cX1_undo 10 = .ok (.ifCond .lt 33, 3) := by decide +kernel
theorem dX1_undo_13 : decode cX1_undo 13 = .ok (.iload_n 1, 1) := by decide +kernel
theorem dX1_undo_14 : decode cX1_undo 14 = .ok (.bipush 31, 2) := by decide +kernel
theorem dX1_undo_16 : decode cX1_undo 16 = .ok (.if_icmp .ge 7, 3) := by decide +kernel
theorem dX1_undo_19 : decode cX1_undo 19 = .ok (.aload_n 0, 1) := by decide +kernel
theorem dX1_undo_20 : decode cX1_undo 20 = .ok (.invokevirtual 85, 3) := by decide +kernel
theorem dX1_undo_23 : decode cX1_undo 23 = .ok (.aload_n 0, 1) := by decide +kernel
theorem dX1_undo_24 : decode cX1_undo 24 = .ok (.iload_n 1, 1) := by decide +kernel
theorem dX1_undo_25 : decode cX1_undo 25 = .ok (.bipush 8, 2) := by decide +kernel
theorem dX1_undo_27 : decode cX1_undo 27 = .ok (.irem, 1) := by decide +kernel
theorem dX1_undo_28 : decode cX1_undo 28 = .ok (.iconst 1, 1) := by decide +kernel
theorem dX1_undo_29 : decode cX1_undo 29 = .ok (.invokevirtual 71, 3) := by decide +kernel
theorem dX1_undo_32 : decode cX1_undo 32 = .ok (.aload_n 0, 1) := by decide +kernel
theorem dX1_undo_33 : decode cX1_undo 33 = .ok (.iload_n 1, 1) := by decide +kernel
theorem dX1_undo_34 : decode cX1_undo 34 = .ok (.invokevirtual 78, 3) := by decide +kernel
theorem dX1_undo_37 : decode cX1_undo 37 = .ok (.iinc 1 (-1), 3) := by decide +kernel
theorem dX1_undo_40 : decode cX1_undo 40 = .ok (.goto (-31), 3) := by decide +kernel
theorem dX1_undo_43 : decode cX1_undo 43 = .ok (.return_, 1) := by decide +kernel
theorem dX1_load_0 : decode cX1_load 0 = .ok (.iconst 0, 1) := by decide +kernel
theorem dX1_load_1 : decode cX1_load 1 = .ok (.istore_n 2, 1) := by decide +kernel
theorem dX1_load_2 : decode cX1_load 2 = .ok (.iload_n 2, 1) := by decide +kernel
theorem dX1_load_3 : decode cX1_load 3 = .ok (.iconst 4, 1) := by decide +kernel
theorem dX1_load_4 : decode cX1_load 4 = .ok (.if_icmp .ge 23, 3) := by decide +kernel
theorem dX1_load_7 : decode cX1_load 7 = .ok (.aload_n 0, 1) := by decide +kernel
theorem dX1_load_8 : decode cX1_load 8 = .ok (.getfield 28, 3) := by decide +kernel
theorem dX1_load_11 : decode cX1_load 11 = .ok (.iload_n 2, 1) := by decide +kernel
theorem dX1_load_12 : decode cX1_load 12 = .ok (.aload_n 0, 1) := by decide +kernel
theorem dX1_load_13 : decode cX1_load 13 = .ok (.getfield 22, 3) := by decide +kernel
theorem dX1_load_16 : decode cX1_load 16 = .ok (.iload_n 1, 1) := by decide +kernel
theorem dX1_load_17 : decode cX1_load 17 = .ok (.iload_n 2, 1) := by decide +kernel
theorem dX1_load_18 : decode cX1_load 18 = .ok (.iadd, 1) := by decide +kernel
theorem dX1_load_19 : decode cX1_load 19 = .ok (.iaload, 1) := by decide +kernel
theorem dX1_load_20 : decode cX1_load 20 = .ok (.iastore, 1) := by decide +kernel
theorem dX1_load_21 : decode cX1_load 21 = .ok (.iinc 2 1, 3) := by decide +kernel
theorem dX1_load_24 : decode cX1_load 24 = .ok (.goto (-22), 3) := by decide +kernel
theorem dX1_load_27 : decode cX1_load 27 = .ok (.return_, 1) := by decide +kernel
theorem dX1_alone_0 : decode cX1_alone 0 = .ok (.aload_n 0, 1) := by decide +kernel
theorem dX1_alone_1 : decode cX1_alone 1 = .ok (.iload_n 1, 1) := by decide +kernel
theorem dX1_alone_2 : decode cX1_alone 2 = .ok (.invokevirtual 88, 3) := by decide +kernel
theorem dX1_alone_5 : decode cX1_alone 5 = .ok (.iload_n 2, 1) := by decide +kernel
theorem dX1_alone_6 : decode cX1_alone 6 = .ok (.ifCond .eq 10, 3) := by decide +kernel
theorem dX1_alone_9 : decode cX1_alone 9 = .ok (.aload_n 0, 1) := by decide +kernel
theorem dX1_alone_10 : decode cX1_alone 10 = .ok (.invokevirtual 91, 3) := by decide +kernel
theorem dX1_alone_13 : decode cX1_alone 13 = .ok (.goto 7, 3) := by decide +kernel
theorem dX1_alone_16 : decode cX1_alone 16 = .ok (.aload_n 0, 1) := by decide +kernel
theorem dX1_alone_17 : decode cX1_alone 17 = .ok (.invokevirtual 94, 3) := by decide +kernel
theorem dX1_alone_20 : decode cX1_alone 20 = .ok (.iconst 0, 1) := by decide +kernel
theorem dX1_alone_21 : decode cX1_alone 21 = .ok (.istore_n 3, 1) := by decide +kernel
theorem dX1_alone_22 : decode cX1_alone 22 = .ok (.iload_n 3, 1) := by decide +kernel
theorem dX1_alone_23 : decode cX1_alone 23 = .ok (.iconst 4, 1) := by decide +kernel
theorem dX1_alone_24 : decode cX1_alone 24 = .ok (.if_icmp .ge 23, 3) := by decide +kernel
theorem dX1_alone_27 : decode cX1_alone 27 = .ok (.aload_n 0, 1) := by decide +kernel
theorem dX1_alone_28 : decode cX1_alone 28 = .ok (.getfield 22, 3) := by decide +kernel
theorem dX1_alone_31 : decode cX1_alone 31 = .ok (.iload_n 1, 1) := by decide +kernel
theorem dX1_alone_32 : decode cX1_alone 32 = .ok (.iload_n 3, 1) := by decide +kernel
theorem dX1_alone_33 : decode cX1_alone 33 = .ok (.iadd, 1) := by decide +kernel
theorem dX1_alone_34 : decode cX1_alone 34 = .ok (.aload_n 0, 1) := by decide +kernel
theorem dX1_alone_35 : decode cX1_alone 35 = .ok (.getfield 28, 3) := by decide +kernel
theorem dX1_alone_38 : decode cX1_alone 38 = .ok (.iload_n 3, 1) := by decide +kernel
theorem dX1_alone_39 : decode cX1_alone 39 = .ok (.iaload, 1) := by decide +kernel
theorem dX1_alone_40 : decode cX1_alone 40 = .ok (.iastore, 1) := by decide +kernel
theorem dX1_alone_41 : decode cX1_alone 41 = .ok (.iinc 3 1, 3) := by decide +kernel
theorem dX1_alone_44 : decode cX1_alone 44 = .ok (.goto (-22), 3) := by decide +kernel
theorem dX1_alone_47 : decode cX1_alone 47 = .ok (.return_, 1) := by decide +kernel
theorem dX1_chained_0 : decode cX1_chained 0 = .ok (.iconst 0, 1) := by decide +kernel
theorem dX1_chained_1 : decode cX1_chained 1 = .ok (.istore_n 3, 1) := by decide +kernel
theorem dX1_chained_2 : decode cX1_chained 2 = .ok (.iload_n 3, 1) := by decide +kernel
theorem dX1_chained_3 : decode cX1_chained 3 = .ok (.iconst 4, 1) := by decide +kernel
theorem dX1_chained_4 : decode cX1_chained 4 = .ok (.if_icmp .ge 61, 3) := by decide +kernel
theorem dX1_chained_7 : decode cX1_chained 7 = .ok (.aload_n 0, 1) := by decide +kernel
theorem dX1_chained_8 : decode cX1_chained 8 = .ok (.getfield 31, 3) := by decide +kernel
theorem dX1_chained_11 : decode cX1_chained 11 = .ok (.iload_n 3, 1) := by decide +kernel
theorem dX1_chained_12 : decode cX1_chained 12 = .ok (.aload_n 0, 1) := by decide +kernel
theorem dX1_chained_13 : decode cX1_chained 13 = .ok (.getfield 22, 3) := by decide +kernel
theorem dX1_chained_16 : decode cX1_chained 16 = .ok (.iload_n 1, 1) := by decide +kernel
theorem dX1_chained_17 : decode cX1_chained 17 = .ok (.iload_n 3, 1) := by decide +kernel
theorem dX1_chained_18 : decode cX1_chained 18 = .ok (.iadd, 1) := by decide +kernel
theorem dX1_chained_19 : decode cX1_chained 19 = .ok (.iaload, 1) := by decide +kernel
theorem dX1_chained_20 : decode cX1_chained 20 = .ok (.iastore, 1) := by decide +kernel
theorem dX1_chained_21 : decode cX1_chained 21 = .ok (.aload_n 0, 1) := by decide +kernel
theorem dX1_chained_22 : decode cX1_chained 22 = .ok (.getfield 22, 3) := by decide +kernel
theorem dX1_chained_25 : decode cX1_chained 25 = .ok (.iload_n 1, 1) := by decide +kernel
theorem dX1_chained_26 : decode cX1_chained 26 = .ok (.iload_n 3, 1) := by decide +kernel
theorem dX1_chained_27 : decode cX1_chained 27 = .ok (.iadd, 1) := by decide +kernel
theorem dX1_chained_28 : decode cX1_chained 28 = .ok (.iload_n 2, 1) := by decide +kernel
theorem dX1_chained_29 : decode cX1_chained 29 = .ok (.ifCond .eq 14, 3) := by decide +kernel
theorem dX1_chained_32 : decode cX1_chained 32 = .ok (.aload_n 0, 1) := by decide +kernel
theorem dX1_chained_33 : decode cX1_chained 33 = .ok (.getfield 22, 3) := by decide +kernel
theorem dX1_chained_36 : decode cX1_chained 36 = .ok (.iload_n 1, 1) := by decide +kernel
theorem dX1_chained_37 : decode cX1_chained 37 = .ok (.iload_n 3, 1) := by decide +kernel
theorem dX1_chained_38 : decode cX1_chained 38 = .ok (.iadd, 1) := by decide +kernel
theorem dX1_chained_39 : decode cX1_chained 39 = .ok (.iaload, 1) := by decide +kernel
theorem dX1_chained_40 : decode cX1_chained 40 = .ok (.goto 18, 3) := by decide +kernel
theorem dX1_chained_43 : decode cX1_chained 43 = .ok (.aload_n 0, 1) := by decide +kernel
theorem dX1_chained_44 : decode cX1_chained 44 = .ok (.getfield 22, 3) := by decide +kernel
theorem dX1_chained_47 : decode cX1_chained 47 = .ok (.iload_n 1, 1) := by decide +kernel
theorem dX1_chained_48 : decode cX1_chained 48 = .ok (.iload_n 3, 1) := by decide +kernel
theorem dX1_chained_49 : decode cX1_chained 49 = .ok (.iadd, 1) := by decide +kernel
theorem dX1_chained_50 : decode cX1_chained 50 = .ok (.iaload, 1) := by decide +kernel
theorem dX1_chained_51 : decode cX1_chained 51 = .ok (.aload_n 0, 1) := by decide +kernel
theorem dX1_chained_52 : decode cX1_chained 52 = .ok (.getfield 34, 3) := by decide +kernel
theorem dX1_chained_55 : decode cX1_chained 55 = .ok (.iload_n 3, 1) := by decide +kernel
theorem dX1_chained_56 : decode cX1_chained 56 = .ok (.iaload, 1) := by decide +kernel
theorem dX1_chained_57 : decode cX1_chained 57 = .ok (.ixor, 1) := by decide +kernel
theorem dX1_chained_58 : decode cX1_chained 58 = .ok (.iastore, 1) := by decide +kernel
theorem dX1_chained_59 : decode cX1_chained 59 = .ok (.iinc 3 1, 3) := by decide +kernel
theorem dX1_chained_62 : decode cX1_chained 62 = .ok (.goto (-60), 3) := by decide +kernel
theorem dX1_chained_65 : decode cX1_chained 65 = .ok (.aload_n 0, 1) := by decide +kernel
theorem dX1_chained_66 : decode cX1_chained 66 = .ok (.getfield 31, 3) := by decide +kernel
theorem dX1_chained_69 : decode cX1_chained 69 = .ok (.iconst 0, 1) := by decide +kernel
theorem dX1_chained_70 : decode cX1_chained 70 = .ok (.iaload, 1) := by decide +kernel
theorem dX1_chained_71 : decode cX1_chained 71 = .ok (.istore_n 3, 1) := by decide +kernel
theorem dX1_chained_72 : decode cX1_chained 72 = .ok (.aload_n 0, 1) := by decide +kernel
theorem dX1_chained_73 : decode cX1_chained 73 = .ok (.getfield 31, 3) := by decide +kernel
theorem dX1_chained_76 : decode cX1_chained 76 = .ok (.iconst 1, 1) := by decide +kernel
theorem dX1_chained_77 : decode cX1_chained 77 = .ok (.iaload, 1) := by decide +kernel
theorem dX1_chained_78 : decode cX1_chained 78 = .ok (.istore 4, 2) := by decide +kernel
theorem dX1_chained_80 : decode cX1_chained 80 = .ok (.aload_n 0, 1) := by decide +kernel
theorem dX1_chained_81 : decode cX1_chained 81 = .ok (.getfield 31, 3) := by decide +kernel
theorem dX1_chained_84 : decode cX1_chained 84 = .ok (.iconst 2, 1) := by decide +kernel
theorem dX1_chained_85 : decode cX1_chained 85 = .ok (.iaload, 1) := by decide +kernel
theorem dX1_chained_86 : decode cX1_chained 86 = .ok (.istore 5, 2) := by decide +kernel
theorem dX1_chained_88 : decode cX1_chained 88 = .ok (.aload_n 0, 1) := by decide +kernel
theorem dX1_chained_89 : decode cX1_chained 89 = .ok (.getfield 31, 3) := by decide +kernel
theorem dX1_chained_92 : decode cX1_chained 92 = .ok (.iconst 3, 1) := by decide +kernel
theorem dX1_chained_93 : decode cX1_chained 93 = .ok (.iaload, 1) := by decide +kernel
theorem dX1_chained_94 : decode cX1_chained 94 = .ok (.istore 6, 2) := by decide +kernel
theorem dX1_chained_96 : decode cX1_chained 96 = .ok (.aload_n 0, 1) := by decide +kernel
theorem dX1_chained_97 : decode cX1_chained 97 = .ok (.iload_n 1, 1) := by decide +kernel
theorem dX1_chained_98 : decode cX1_chained 98 = .ok (.iload_n 2, 1) := by decide +kernel
theorem dX1_chained_99 : decode cX1_chained 99 = .ok (.invokevirtual 97, 3) := by decide +kernel
theorem dX1_chained_102 : decode cX1_chained 102 = .ok (.iconst 0, 1) := by decide +kernel
theorem dX1_chained_103 : decode cX1_chained 103 = .ok (.istore 7, 2) := by decide +kernel
theorem dX1_chained_105 : decode cX1_chained 105 = .ok (.iload 7, 2) := by decide +kernel
theorem dX1_chained_107 : decode cX1_chained 107 = .ok (.iconst 4, 1) := by decide +kernel
theorem dX1_chained_108 : decode cX1_chained 108 = .ok (.if_icmp .ge 107, 3) := by decide +kernel
theorem dX1_chained_111 : decode cX1_chained 111 = .ok (.aload_n 0, 1) := by decide +kernel
theorem dX1_chained_112 : decode cX1_chained 112 = .ok (.getfield 22, 3) := by decide +kernel
theorem dX1_chained_115 : decode cX1_chained 115 = .ok (.iload_n 1, 1) := by decide +kernel
theorem dX1_chained_116 : decode cX1_chained 116 = .ok (.iload 7, 2) := by decide +kernel
theorem dX1_chained_118 : decode cX1_chained 118 = .ok (.iadd, 1) := by decide +kernel
theorem dX1_chained_119 : decode cX1_chained 119 = .ok (.iload_n 2, 1) := by decide +kernel
theorem dX1_chained_120 : decode cX1_chained 120 = .ok (.ifCond .eq 23, 3) := by decide +kernel
theorem dX1_chained_123 : decode cX1_chained 123 = .ok (.aload_n 0, 1) := by decide +kernel
theorem dX1_chained_124 : decode cX1_chained 124 = .ok (.getfield 22, 3) := by decide +kernel
theorem dX1_chained_127 : decode cX1_chained 127 = .ok (.iload_n 1, 1) := by decide +kernel
theorem dX1_chained_128 : decode cX1_chained 128 = .ok (.iload 7, 2) := by decide +kernel
theorem dX1_chained_130 : decode cX1_chained 130 = .ok (.iadd, 1) := by decide +kernel
theorem dX1_chained_131 : decode cX1_chained 131 = .ok (.iaload, 1) := by decide +kernel
theorem dX1_chained_132 : decode cX1_chained 132 = .ok (.aload_n 0, 1) := by decide +kernel
theorem dX1_chained_133 : decode cX1_chained 133 = .ok (.getfield 34, 3) := by decide +kernel
theorem dX1_chained_136 : decode cX1_chained 136 = .ok (.iload 7, 2) := by decide +kernel
theorem dX1_chained_138 : decode cX1_chained 138 = .ok (.iaload, 1) := by decide +kernel
theorem dX1_chained_139 : decode cX1_chained 139 = .ok (.ixor, 1) := by decide +kernel
theorem dX1_chained_140 : decode cX1_chained 140 = .ok (.goto 12, 3) := by decide +kernel
theorem dX1_chained_143 : decode cX1_chained 143 = .ok (.aload_n 0, 1) := by decide +kernel
theorem dX1_chained_144 : decode cX1_chained 144 = .ok (.getfield 22, 3) := by decide +kernel
theorem dX1_chained_147 : decode cX1_chained 147 = .ok (.iload_n 1, 1) := by decide +kernel
theorem dX1_chained_148 : decode cX1_chained 148 = .ok (.iload 7, 2) := by decide +kernel
theorem dX1_chained_150 : decode cX1_chained 150 = .ok (.iadd, 1) := by decide +kernel
theorem dX1_chained_151 : decode cX1_chained 151 = .ok (.iaload, 1) := by decide +kernel
theorem dX1_chained_152 : decode cX1_chained 152 = .ok (.iastore, 1) := by decide +kernel
theorem dX1_chained_153 : decode cX1_chained 153 = .ok (.aload_n 0, 1) := by decide +kernel
theorem dX1_chained_154 : decode cX1_chained 154 = .ok (.getfield 34, 3) := by decide +kernel
theorem dX1_chained_157 : decode cX1_chained 157 = .ok (.iload 7, 2) := by decide +kernel
theorem dX1_chained_159 : decode cX1_chained 159 = .ok (.iload_n 2, 1) := by decide +kernel
theorem dX1_chained_160 : decode cX1_chained 160 = .ok (.ifCond .ne 15, 3) := by decide +kernel
theorem dX1_chained_163 : decode cX1_chained 163 = .ok (.aload_n 0, 1) := by decide +kernel
theorem dX1_chained_164 : decode cX1_chained 164 = .ok (.getfield 22, 3) := by decide +kernel
theorem dX1_chained_167 : decode cX1_chained 167 = .ok (.iload_n 1, 1) := by decide +kernel
theorem dX1_chained_168 : decode cX1_chained 168 = .ok (.iload 7, 2) := by decide +kernel
theorem dX1_chained_170 : decode cX1_chained 170 = .ok (.iadd, 1) := by decide +kernel
theorem dX1_chained_171 : decode cX1_chained 171 = .ok (.iaload, 1) := by decide +kernel
theorem dX1_chained_172 : decode cX1_chained 172 = .ok (.goto 36, 3) := by decide +kernel
theorem dX1_chained_175 : decode cX1_chained 175 = .ok (.iload 7, 2) := by decide +kernel
theorem dX1_chained_177 : decode cX1_chained 177 = .ok (.ifCond .ne 7, 3) := by decide +kernel
theorem dX1_chained_180 : decode cX1_chained 180 = .ok (.iload_n 3, 1) := by decide +kernel
theorem dX1_chained_181 : decode cX1_chained 181 = .ok (.goto 27, 3) := by decide +kernel
theorem dX1_chained_184 : decode cX1_chained 184 = .ok (.iload 7, 2) := by decide +kernel
theorem dX1_chained_186 : decode cX1_chained 186 = .ok (.iconst 1, 1) := by decide +kernel
theorem dX1_chained_187 : decode cX1_chained 187 = .ok (.if_icmp .ne 8, 3) := by decide +kernel
theorem dX1_chained_190 : decode cX1_chained 190 = .ok (.iload 4, 2) := by decide +kernel
theorem dX1_chained_192 : decode cX1_chained 192 = .ok (.goto 16, 3) := by decide +kernel
theorem dX1_chained_195 : decode cX1_chained 195 = .ok (.iload 7, 2) := by decide +kernel
theorem dX1_chained_197 : decode cX1_chained 197 = .ok (.iconst 2, 1) := by decide +kernel
theorem dX1_chained_198 : decode cX1_chained 198 = .ok (.if_icmp .ne 8, 3) := by decide +kernel
theorem dX1_chained_201 : decode cX1_chained 201 = .ok (.iload 5, 2) := by decide +kernel
theorem dX1_chained_203 : decode cX1_chained 203 = .ok (.goto 5, 3) := by decide +kernel
theorem dX1_chained_206 : decode cX1_chained 206 = .ok (.iload 6, 2) := by decide +kernel
theorem dX1_chained_208 : decode cX1_chained 208 = .ok (.iastore, 1) := by decide +kernel
theorem dX1_chained_209 : decode cX1_chained 209 = .ok (.iinc 7 1, 3) := by decide +kernel
theorem dX1_chained_212 : decode cX1_chained 212 = .ok (.goto (-107), 3) := by decide +kernel
theorem dX1_chained_215 : decode cX1_chained 215 = .ok (.return_, 1) := by decide +kernel
theorem dX1_counted_0 : decode cX1_counted 0 = .ok (.iconst 0, 1) := by decide +kernel
theorem dX1_counted_1 : decode cX1_counted 1 = .ok (.istore_n 2, 1) := by decide +kernel
theorem dX1_counted_2 : decode cX1_counted 2 = .ok (.iload_n 2, 1) := by decide +kernel
theorem dX1_counted_3 : decode cX1_counted 3 = .ok (.iconst 4, 1) := by decide +kernel
theorem dX1_counted_4 : decode cX1_counted 4 = .ok (.if_icmp .ge 21, 3) := by decide +kernel
theorem dX1_counted_7 : decode cX1_counted 7 = .ok (.aload_n 0, 1) := by decide +kernel
theorem dX1_counted_8 : decode cX1_counted 8 = .ok (.getfield 28, 3) := by decide +kernel
theorem dX1_counted_11 : decode cX1_counted 11 = .ok (.iload_n 2, 1) := by decide +kernel
theorem dX1_counted_12 : decode cX1_counted 12 = .ok (.aload_n 0, 1) := by decide +kernel
theorem dX1_counted_13 : decode cX1_counted 13 = .ok (.getfield 34, 3) := by decide +kernel
theorem dX1_counted_16 : decode cX1_counted 16 = .ok (.iload_n 2, 1) := by decide +kernel
theorem dX1_counted_17 : decode cX1_counted 17 = .ok (.iaload, 1) := by decide +kernel
theorem dX1_counted_18 : decode cX1_counted 18 = .ok (.iastore, 1) := by decide +kernel
theorem dX1_counted_19 : decode cX1_counted 19 = .ok (.iinc 2 1, 3) := by decide +kernel
theorem dX1_counted_22 : decode cX1_counted 22 = .ok (.goto (-20), 3) := by decide +kernel
theorem dX1_counted_25 : decode cX1_counted 25 = .ok (.aload_n 0, 1) := by decide +kernel
theorem dX1_counted_26 : decode cX1_counted 26 = .ok (.invokevirtual 94, 3) := by decide +kernel
theorem dX1_counted_29 : decode cX1_counted 29 = .ok (.iconst 0, 1) := by decide +kernel
theorem dX1_counted_30 : decode cX1_counted 30 = .ok (.istore_n 2, 1) := by decide +kernel
theorem dX1_counted_31 : decode cX1_counted 31 = .ok (.iload_n 2, 1) := by decide +kernel
theorem dX1_counted_32 : decode cX1_counted 32 = .ok (.iconst 4, 1) := by decide +kernel
theorem dX1_counted_33 : decode cX1_counted 33 = .ok (.if_icmp .ge 32, 3) := by decide +kernel
theorem dX1_counted_36 : decode cX1_counted 36 = .ok (.aload_n 0, 1) := by decide +kernel
theorem dX1_counted_37 : decode cX1_counted 37 = .ok (.getfield 22, 3) := by decide +kernel
theorem dX1_counted_40 : decode cX1_counted 40 = .ok (.iload_n 1, 1) := by decide +kernel
theorem dX1_counted_41 : decode cX1_counted 41 = .ok (.iload_n 2, 1) := by decide +kernel
theorem dX1_counted_42 : decode cX1_counted 42 = .ok (.iadd, 1) := by decide +kernel
theorem dX1_counted_43 : decode cX1_counted 43 = .ok (.aload_n 0, 1) := by decide +kernel
theorem dX1_counted_44 : decode cX1_counted 44 = .ok (.getfield 22, 3) := by decide +kernel
theorem dX1_counted_47 : decode cX1_counted 47 = .ok (.iload_n 1, 1) := by decide +kernel
theorem dX1_counted_48 : decode cX1_counted 48 = .ok (.iload_n 2, 1) := by decide +kernel
theorem dX1_counted_49 : decode cX1_counted 49 = .ok (.iadd, 1) := by decide +kernel
theorem dX1_counted_50 : decode cX1_counted 50 = .ok (.iaload, 1) := by decide +kernel
theorem dX1_counted_51 : decode cX1_counted 51 = .ok (.aload_n 0, 1) := by decide +kernel
theorem dX1_counted_52 : decode cX1_counted 52 = .ok (.getfield 28, 3) := by decide +kernel
theorem dX1_counted_55 : decode cX1_counted 55 = .ok (.iload_n 2, 1) := by decide +kernel
theorem dX1_counted_56 : decode cX1_counted 56 = .ok (.iaload, 1) := by decide +kernel
theorem dX1_counted_57 : decode cX1_counted 57 = .ok (.ixor, 1) := by decide +kernel
theorem dX1_counted_58 : decode cX1_counted 58 = .ok (.iastore, 1) := by decide +kernel
theorem dX1_counted_59 : decode cX1_counted 59 = .ok (.iinc 2 1, 3) := by decide +kernel
theorem dX1_counted_62 : decode cX1_counted 62 = .ok (.goto (-31), 3) := by decide +kernel
theorem dX1_counted_65 : decode cX1_counted 65 = .ok (.iconst 1, 1) := by decide +kernel
theorem dX1_counted_66 : decode cX1_counted 66 = .ok (.istore_n 2, 1) := by decide +kernel
theorem dX1_counted_67 : decode cX1_counted 67 = .ok (.iconst 0, 1) := by decide +kernel
theorem dX1_counted_68 : decode cX1_counted 68 = .ok (.istore_n 3, 1) := by decide +kernel
theorem dX1_counted_69 : decode cX1_counted 69 = .ok (.iload_n 3, 1) := by decide +kernel
theorem dX1_counted_70 : decode cX1_counted 70 = .ok (.iconst 4, 1) := by decide +kernel
theorem dX1_counted_71 : decode cX1_counted 71 = .ok (.if_icmp .ge 55, 3) := by decide +kernel
theorem dX1_counted_74 : decode cX1_counted 74 = .ok (.aload_n 0, 1) := by decide +kernel
theorem dX1_counted_75 : decode cX1_counted 75 = .ok (.getfield 34, 3) := by decide +kernel
theorem dX1_counted_78 : decode cX1_counted 78 = .ok (.iload_n 3, 1) := by decide +kernel
theorem dX1_counted_79 : decode cX1_counted 79 = .ok (.iload_n 2, 1) := by decide +kernel
theorem dX1_counted_80 : decode cX1_counted 80 = .ok (.ifCond .eq 14, 3) := by decide +kernel
theorem dX1_counted_83 : decode cX1_counted 83 = .ok (.aload_n 0, 1) := by decide +kernel
theorem dX1_counted_84 : decode cX1_counted 84 = .ok (.getfield 34, 3) := by decide +kernel
theorem dX1_counted_87 : decode cX1_counted 87 = .ok (.iload_n 3, 1) := by decide +kernel
theorem dX1_counted_88 : decode cX1_counted 88 = .ok (.iaload, 1) := by decide +kernel
theorem dX1_counted_89 : decode cX1_counted 89 = .ok (.iconst 1, 1) := by decide +kernel
theorem dX1_counted_90 : decode cX1_counted 90 = .ok (.iadd, 1) := by decide +kernel
theorem dX1_counted_91 : decode cX1_counted 91 = .ok (.goto 9, 3) := by decide +kernel
theorem dX1_counted_94 : decode cX1_counted 94 = .ok (.aload_n 0, 1) := by decide +kernel
theorem dX1_counted_95 : decode cX1_counted 95 = .ok (.getfield 34, 3) := by decide +kernel
theorem dX1_counted_98 : decode cX1_counted 98 = .ok (.iload_n 3, 1) := by decide +kernel
theorem dX1_counted_99 : decode cX1_counted 99 = .ok (.iaload, 1) := by decide +kernel
theorem dX1_counted_100 : decode cX1_counted 100 = .ok (.iastore, 1) := by decide +kernel
theorem dX1_counted_101 : decode cX1_counted 101 = .ok (.iload_n 2, 1) := by decide +kernel
theorem dX1_counted_102 : decode cX1_counted 102 = .ok (.ifCond .eq 16, 3) := by decide +kernel
theorem dX1_counted_105 : decode cX1_counted 105 = .ok (.aload_n 0, 1) := by decide +kernel
theorem dX1_counted_106 : decode cX1_counted 106 = .ok (.getfield 34, 3) := by decide +kernel
theorem dX1_counted_109 : decode cX1_counted 109 = .ok (.iload_n 3, 1) := by decide +kernel
theorem dX1_counted_110 : decode cX1_counted 110 = .ok (.iaload, 1) := by decide +kernel
theorem dX1_counted_111 : decode cX1_counted 111 = .ok (.ifCond .ne 7, 3) := by decide +kernel
theorem dX1_counted_114 : decode cX1_counted 114 = .ok (.iconst 1, 1) := by decide +kernel
theorem dX1_counted_115 : decode cX1_counted 115 = .ok (.goto 4, 3) := by decide +kernel
theorem dX1_counted_118 : decode cX1_counted 118 = .ok (.iconst 0, 1) := by decide +kernel
theorem dX1_counted_119 : decode cX1_counted 119 = .ok (.istore_n 2, 1) := by decide +kernel
theorem dX1_counted_120 : decode cX1_counted 120 = .ok (.iinc 3 1, 3) := by decide +kernel
theorem dX1_counted_123 : decode cX1_counted 123 = .ok (.goto (-54), 3) := by decide +kernel
theorem dX1_counted_126 : decode cX1_counted 126 = .ok (.return_, 1) := by decide +kernel
theorem dX1_run_0 : decode cX1_run 0 = .ok (.aload_n 0, 1) := by decide +kernel
theorem dX1_run_1 : decode cX1_run 1 = .ok (.iload_n 1, 1) := by decide +kernel
theorem dX1_run_2 : decode cX1_run 2 = .ok (.iconst 0, 1) := by decide +kernel
theorem dX1_run_3 : decode cX1_run 3 = .ok (.iconst 2, 1) := by decide +kernel
theorem dX1_run_4 : decode cX1_run 4 = .ok (.invokestatic 51, 3) := by decide +kernel
theorem dX1_run_7 : decode cX1_run 7 = .ok (.aload_n 0, 1) := by decide +kernel
theorem dX1_run_8 : decode cX1_run 8 = .ok (.getfield 59, 3) := by decide +kernel
theorem dX1_run_11 : decode cX1_run 11 = .ok (.ifCond .eq 16, 3) := by decide +kernel
theorem dX1_run_14 : decode cX1_run 14 = .ok (.aload_n 0, 1) := by decide +kernel
theorem dX1_run_15 : decode cX1_run 15 = .ok (.getfield 37, 3) := by decide +kernel
theorem dX1_run_18 : decode cX1_run 18 = .ok (.iconst 4, 1) := by decide +kernel
theorem dX1_run_19 : decode cX1_run 19 = .ok (.irem, 1) := by decide +kernel
theorem dX1_run_20 : decode cX1_run 20 = .ok (.ifCond .ne 7, 3) := by decide +kernel
theorem dX1_run_23 : decode cX1_run 23 = .ok (.iconst 1, 1) := by decide +kernel
theorem dX1_run_24 : decode cX1_run 24 = .ok (.goto 4, 3) := by decide +kernel
theorem dX1_run_27 : decode cX1_run 27 = .ok (.iconst 0, 1) := by decide +kernel
theorem dX1_run_28 : decode cX1_run 28 = .ok (.invokevirtual 55, 3) := by decide +kernel
theorem dX1_run_31 : decode cX1_run 31 = .ok (.ifCond .ne 5, 3) := by decide +kernel
theorem dX1_run_34 : decode cX1_run 34 = .ok (.iconst 0, 1) := by decide +kernel
theorem dX1_run_35 : decode cX1_run 35 = .ok (.ireturn, 1) := by decide +kernel
theorem dX1_run_36 : decode cX1_run 36 = .ok (.iconst 0, 1) := by decide +kernel
theorem dX1_run_37 : decode cX1_run 37 = .ok (.istore_n 3, 1) := by decide +kernel
theorem dX1_run_38 : decode cX1_run 38 = .ok (.iload_n 3, 1) := by decide +kernel
theorem dX1_run_39 : decode cX1_run 39 = .ok (.iconst 4, 1) := by decide +kernel
theorem dX1_run_40 : decode cX1_run 40 = .ok (.if_icmp .ge 21, 3) := by decide +kernel
theorem dX1_run_43 : decode cX1_run 43 = .ok (.aload_n 0, 1) := by decide +kernel
theorem dX1_run_44 : decode cX1_run 44 = .ok (.getfield 34, 3) := by decide +kernel
theorem dX1_run_47 : decode cX1_run 47 = .ok (.iload_n 3, 1) := by decide +kernel
theorem dX1_run_48 : decode cX1_run 48 = .ok (.aload_n 0, 1) := by decide +kernel
theorem dX1_run_49 : decode cX1_run 49 = .ok (.getfield 19, 3) := by decide +kernel
theorem dX1_run_52 : decode cX1_run 52 = .ok (.iload_n 3, 1) := by decide +kernel
theorem dX1_run_53 : decode cX1_run 53 = .ok (.iaload, 1) := by decide +kernel
theorem dX1_run_54 : decode cX1_run 54 = .ok (.iastore, 1) := by decide +kernel
theorem dX1_run_55 : decode cX1_run 55 = .ok (.iinc 3 1, 3) := by decide +kernel
theorem dX1_run_58 : decode cX1_run 58 = .ok (.goto (-20), 3) := by decide +kernel
theorem dX1_run_61 : decode cX1_run 61 = .ok (.iconst 0, 1) := by decide +kernel
theorem dX1_run_62 : decode cX1_run 62 = .ok (.istore_n 3, 1) := by decide +kernel
theorem dX1_run_63 : decode cX1_run 63 = .ok (.iload_n 3, 1) := by decide +kernel
theorem dX1_run_64 : decode cX1_run 64 = .ok (.aload_n 0, 1) := by decide +kernel
theorem dX1_run_65 : decode cX1_run 65 = .ok (.getfield 37, 3) := by decide +kernel
theorem dX1_run_68 : decode cX1_run 68 = .ok (.if_icmp .ge 42, 3) := by decide +kernel
theorem dX1_run_71 : decode cX1_run 71 = .ok (.iload_n 1, 1) := by decide +kernel
theorem dX1_run_72 : decode cX1_run 72 = .ok (.ifCond .ne 12, 3) := by decide +kernel
theorem dX1_run_75 : decode cX1_run 75 = .ok (.aload_n 0, 1) := by decide +kernel
theorem dX1_run_76 : decode cX1_run 76 = .ok (.iload_n 3, 1) := by decide +kernel
theorem dX1_run_77 : decode cX1_run 77 = .ok (.iload_n 2, 1) := by decide +kernel
theorem dX1_run_78 : decode cX1_run 78 = .ok (.invokevirtual 97, 3) := by decide +kernel
theorem dX1_run_81 : decode cX1_run 81 = .ok (.goto 22, 3) := by decide +kernel
theorem dX1_run_84 : decode cX1_run 84 = .ok (.iload_n 1, 1) := by decide +kernel
theorem dX1_run_85 : decode cX1_run 85 = .ok (.iconst 1, 1) := by decide +kernel
theorem dX1_run_86 : decode cX1_run 86 = .ok (.if_icmp .ne 12, 3) := by decide +kernel
theorem dX1_run_89 : decode cX1_run 89 = .ok (.aload_n 0, 1) := by decide +kernel
theorem dX1_run_90 : decode cX1_run 90 = .ok (.iload_n 3, 1) := by decide +kernel
theorem dX1_run_91 : decode cX1_run 91 = .ok (.iload_n 2, 1) := by decide +kernel
theorem dX1_run_92 : decode cX1_run 92 = .ok (.invokevirtual 100, 3) := by decide +kernel
theorem dX1_run_95 : decode cX1_run 95 = .ok (.goto 8, 3) := by decide +kernel
theorem dX1_run_98 : decode cX1_run 98 = .ok (.aload_n 0, 1) := by decide +kernel
theorem dX1_run_99 : decode cX1_run 99 = .ok (.iload_n 3, 1) := by decide +kernel
theorem dX1_run_100 : decode cX1_run 100 = .ok (.invokevirtual 103, 3) := by decide +kernel
theorem dX1_run_103 : decode cX1_run 103 = .ok (.iload_n 3, 1) := by decide +kernel
theorem dX1_run_104 : decode cX1_run 104 = .ok (.iconst 4, 1) := by decide +kernel
theorem dX1_run_105 : decode cX1_run 105 = .ok (.iadd, 1) := by decide +kernel
theorem dX1_run_106 : decode cX1_run 106 = .ok (.istore_n 3, 1) := by decide +kernel
theorem dX1_run_107 : decode cX1_run 107 = .ok (.goto (-44), 3) := by decide +kernel
theorem dX1_run_110 : decode cX1_run 110 = .ok (.aload_n 0, 1) := by decide +kernel
theorem dX1_run_111 : decode cX1_run 111 = .ok (.getfield 37, 3) := by decide +kernel
theorem dX1_run_114 : decode cX1_run 114 = .ok (.iconst 4, 1) := by decide +kernel
theorem dX1_run_115 : decode cX1_run 115 = .ok (.idiv, 1) := by decide +kernel
theorem dX1_run_116 : decode cX1_run 116 = .ok (.ireturn, 1) := by decide +kernel
theorem dX1_seal_0 : decode cX1_seal 0 = .ok (.aload_n 0, 1) := by decide +kernel
theorem dX1_seal_1 : decode cX1_seal 1 = .ok (.iload_n 1, 1) := by decide +kernel
theorem dX1_seal_2 : decode cX1_seal 2 = .ok (.iconst 0, 1) := by decide +kernel
theorem dX1_seal_3 : decode cX1_seal 3 = .ok (.iconst 3, 1) := by decide +kernel
theorem dX1_seal_4 : decode cX1_seal 4 = .ok (.invokestatic 51, 3) := by decide +kernel
theorem dX1_seal_7 : decode cX1_seal 7 = .ok (.aload_n 0, 1) := by decide +kernel
theorem dX1_seal_8 : decode cX1_seal 8 = .ok (.getfield 59, 3) := by decide +kernel
theorem dX1_seal_11 : decode cX1_seal 11 = .ok (.ifCond .eq 16, 3) := by decide +kernel
theorem dX1_seal_14 : decode cX1_seal 14 = .ok (.aload_n 0, 1) := by decide +kernel
theorem dX1_seal_15 : decode cX1_seal 15 = .ok (.getfield 37, 3) := by decide +kernel
theorem dX1_seal_18 : decode cX1_seal 18 = .ok (.iconst 4, 1) := by decide +kernel
theorem dX1_seal_19 : decode cX1_seal 19 = .ok (.irem, 1) := by decide +kernel
theorem dX1_seal_20 : decode cX1_seal 20 = .ok (.ifCond .ne 7, 3) := by decide +kernel
theorem dX1_seal_23 : decode cX1_seal 23 = .ok (.iconst 1, 1) := by decide +kernel
theorem dX1_seal_24 : decode cX1_seal 24 = .ok (.goto 4, 3) := by decide +kernel
theorem dX1_seal_27 : decode cX1_seal 27 = .ok (.iconst 0, 1) := by decide +kernel
theorem dX1_seal_28 : decode cX1_seal 28 = .ok (.invokevirtual 55, 3) := by decide +kernel
theorem dX1_seal_31 : decode cX1_seal 31 = .ok (.ifCond .ne 5, 3) := by decide +kernel
theorem dX1_seal_34 : decode cX1_seal 34 = .ok (.iconst 0, 1) := by decide +kernel
theorem dX1_seal_35 : decode cX1_seal 35 = .ok (.ireturn, 1) := by decide +kernel
theorem dX1_seal_36 : decode cX1_seal 36 = .ok (.iconst 0, 1) := by decide +kernel
theorem dX1_seal_37 : decode cX1_seal 37 = .ok (.istore_n 2, 1) := by decide +kernel
theorem dX1_seal_38 : decode cX1_seal 38 = .ok (.iload_n 2, 1) := by decide +kernel
theorem dX1_seal_39 : decode cX1_seal 39 = .ok (.iconst 4, 1) := by decide +kernel
theorem dX1_seal_40 : decode cX1_seal 40 = .ok (.if_icmp .ge 16, 3) := by decide +kernel
theorem dX1_seal_43 : decode cX1_seal 43 = .ok (.aload_n 0, 1) := by decide +kernel
theorem dX1_seal_44 : decode cX1_seal 44 = .ok (.getfield 34, 3) := by decide +kernel
theorem dX1_seal_47 : decode cX1_seal 47 = .ok (.iload_n 2, 1) := by decide +kernel
theorem dX1_seal_48 : decode cX1_seal 48 = .ok (.iconst 0, 1) := by decide +kernel
theorem dX1_seal_49 : decode cX1_seal 49 = .ok (.iastore, 1) := by decide +kernel
theorem dX1_seal_50 : decode cX1_seal 50 = .ok (.iinc 2 1, 3) := by decide +kernel
theorem dX1_seal_53 : decode cX1_seal 53 = .ok (.goto (-15), 3) := by decide +kernel
theorem dX1_seal_56 : decode cX1_seal 56 = .ok (.iconst 0, 1) := by decide +kernel
theorem dX1_seal_57 : decode cX1_seal 57 = .ok (.istore_n 2, 1) := by decide +kernel
theorem dX1_seal_58 : decode cX1_seal 58 = .ok (.iload_n 2, 1) := by decide +kernel
theorem dX1_seal_59 : decode cX1_seal 59 = .ok (.aload_n 0, 1) := by decide +kernel
theorem dX1_seal_60 : decode cX1_seal 60 = .ok (.getfield 37, 3) := by decide +kernel
end
section
theorem dX1_seal_63 : decode cX1_seal 63 = .ok (.if_icmp .ge 73, 3) := by decide +kernel
theorem dX1_seal_66 : decode cX1_seal 66 = .ok (.iconst 0, 1) := by decide +kernel
theorem dX1_seal_67 : decode cX1_seal 67 = .ok (.istore_n 3, 1) := by decide +kernel
theorem dX1_seal_68 : decode cX1_seal 68 = .ok (.iload_n 3, 1) := by decide +kernel
theorem dX1_seal_69 : decode cX1_seal 69 = .ok (.iconst 4, 1) := by decide +kernel
theorem dX1_seal_70 : decode cX1_seal 70 = .ok (.if_icmp .ge 30, 3) := by decide +kernel
theorem dX1_seal_73 : decode cX1_seal 73 = .ok (.aload_n 0, 1) := by decide +kernel
theorem dX1_seal_74 : decode cX1_seal 74 = .ok (.getfield 28, 3) := by decide +kernel
theorem dX1_seal_77 : decode cX1_seal 77 = .ok (.iload_n 3, 1) := by decide +kernel
theorem dX1_seal_78 : decode cX1_seal 78 = .ok (.aload_n 0, 1) := by decide +kernel
theorem dX1_seal_79 : decode cX1_seal 79 = .ok (.getfield 22, 3) := by decide +kernel
theorem dX1_seal_82 : decode cX1_seal 82 = .ok (.iload_n 2, 1) := by decide +kernel
theorem dX1_seal_83 : decode cX1_seal 83 = .ok (.iload_n 3, 1) := by decide +kernel
theorem dX1_seal_84 : decode cX1_seal 84 = .ok (.iadd, 1) := by decide +kernel
theorem dX1_seal_85 : decode cX1_seal 85 = .ok (.iaload, 1) := by decide +kernel
theorem dX1_seal_86 : decode cX1_seal 86 = .ok (.aload_n 0, 1) := by decide +kernel
theorem dX1_seal_87 : decode cX1_seal 87 = .ok (.getfield 34, 3) := by decide +kernel
theorem dX1_seal_90 : decode cX1_seal 90 = .ok (.iload_n 3, 1) := by decide +kernel
theorem dX1_seal_91 : decode cX1_seal 91 = .ok (.iaload, 1) := by decide +kernel
theorem dX1_seal_92 : decode cX1_seal 92 = .ok (.ixor, 1) := by decide +kernel
theorem dX1_seal_93 : decode cX1_seal 93 = .ok (.iastore, 1) := by decide +kernel
theorem dX1_seal_94 : decode cX1_seal 94 = .ok (.iinc 3 1, 3) := by decide +kernel
theorem dX1_seal_97 : decode cX1_seal 97 = .ok (.goto (-29), 3) := by decide +kernel
theorem dX1_seal_100 : decode cX1_seal 100 = .ok (.aload_n 0, 1) := by decide +kernel
theorem dX1_seal_101 : decode cX1_seal 101 = .ok (.invokevirtual 94, 3) := by decide +kernel
theorem dX1_seal_104 : decode cX1_seal 104 = .ok (.iconst 0, 1) := by decide +kernel
theorem dX1_seal_105 : decode cX1_seal 105 = .ok (.istore_n 3, 1) := by decide +kernel
theorem dX1_seal_106 : decode cX1_seal 106 = .ok (.iload_n 3, 1) := by decide +kernel
theorem dX1_seal_107 : decode cX1_seal 107 = .ok (.iconst 4, 1) := by decide +kernel
theorem dX1_seal_108 : decode cX1_seal 108 = .ok (.if_icmp .ge 21, 3) := by decide +kernel
theorem dX1_seal_111 : decode cX1_seal 111 = .ok (.aload_n 0, 1) := by decide +kernel
theorem dX1_seal_112 : decode cX1_seal 112 = .ok (.getfield 34, 3) := by decide +kernel
theorem dX1_seal_115 : decode cX1_seal 115 = .ok (.iload_n 3, 1) := by decide +kernel
theorem dX1_seal_116 : decode cX1_seal 116 = .ok (.aload_n 0, 1) := by decide +kernel
theorem dX1_seal_117 : decode cX1_seal 117 = .ok (.getfield 28, 3) := by decide +kernel
theorem dX1_seal_120 : decode cX1_seal 120 = .ok (.iload_n 3, 1) := by decide +kernel
theorem dX1_seal_121 : decode cX1_seal 121 = .ok (.iaload, 1) := by decide +kernel
theorem dX1_seal_122 : decode cX1_seal 122 = .ok (.iastore, 1) := by decide +kernel
theorem dX1_seal_123 : decode cX1_seal 123 = .ok (.iinc 3 1, 3) := by decide +kernel
theorem dX1_seal_126 : decode cX1_seal 126 = .ok (.goto (-20), 3) := by decide +kernel
theorem dX1_seal_129 : decode cX1_seal 129 = .ok (.iload_n 2, 1) := by decide +kernel
theorem dX1_seal_130 : decode cX1_seal 130 = .ok (.iconst 4, 1) := by decide +kernel
theorem dX1_seal_131 : decode cX1_seal 131 = .ok (.iadd, 1) := by decide +kernel
theorem dX1_seal_132 : decode cX1_seal 132 = .ok (.istore_n 2, 1) := by decide +kernel
theorem dX1_seal_133 : decode cX1_seal 133 = .ok (.goto (-75), 3) := by decide +kernel
theorem dX1_seal_136 : decode cX1_seal 136 = .ok (.aload_n 0, 1) := by decide +kernel
theorem dX1_seal_137 : decode cX1_seal 137 = .ok (.getfield 34, 3) := by decide +kernel
theorem dX1_seal_140 : decode cX1_seal 140 = .ok (.iload_n 1, 1) := by decide +kernel
theorem dX1_seal_141 : decode cX1_seal 141 = .ok (.iaload, 1) := by decide +kernel
theorem dX1_seal_142 : decode cX1_seal 142 = .ok (.ireturn, 1) := by decide +kernel
end
section
/-! ===== own rows, short forms: numbers by Nat, arrays by places, calls with the world cut and joined ===== -/
def TBl : List Int32 := [3, 8, 15, 1, 10, 6, 5, 11, 14, 13, 4, 2, 7, 0, 9, 12, 15, 12, 2, 7, 9, 0, 5, 10, 1, 11, 14, 8, 6, 13, 3, 4, 8, 6, 7, 9, 3, 12, 10, 15, 13, 1, 14, 4, 0, 11, 5, 2, 0, 15, 11, 8, 12, 9, 6, 3, 13, 1, 2, 4, 10, 7, 5, 14, 1, 15, 8, 3, 12, 0, 11, 6, 2, 5, 4, 10, 9, 14, 7, 13, 15, 5, 2, 11, 4, 10, 9, 12, 0, 3, 14, 8, 13, 6, 7, 1, 7, 2, 12, 5, 8, 4, 6, 11, 14, 9, 1, 15, 13, 3, 10, 0, 1, 13, 15, 0, 14, 8, 2, 11, 7, 4, 12, 10, 9, 3, 5, 6]
/-- the boxes, eight rows of sixteen -/
def TB (j : Nat) : Int32 := TBl.getD j 0
theorem fm_of_map {α β : Type} (f : α → Option β) : ∀ (l : List α) (r : List β), l.map f = r.map some → l.filterMap f = r
  | [], [], _ => rfl
  | [], _ :: _, h => by simp at h
  | _ :: _, [], h => by simp at h
  | a :: l, b :: r, h => by
    simp only [List.map_cons, List.cons.injEq] at h
    rw [List.filterMap_cons, h.1]
    simp only [fm_of_map f l r h.2]
section
variable {p : Program} {l : Launch} {e : Env} {R : Room} {s : State} {m : MethodId} {args : Array Value} {below : List Frame} {meth : Method} {c : Code} {H : Heap} {locs : List Loc} {cells slots : Nat} {Q : State → Prop} {cc : ByteArray} {pc : Nat} {ls : Array Slot} {rest : List Value}
theorem wk_i {x y : Int32} (h : x = y) (k : W p l e R s m args below meth c H locs cells slots Q (F0 m pc ls (.int y :: rest))) : W p l e R s m args below meth c H locs cells slots Q (F0 m pc ls (.int x :: rest)) := h ▸ k
theorem wk_inc (x : Nat) {n : Int} {k : Nat} (h : Int32.ofInt n = nI k) : nI x + Int32.ofInt n = nI (x + k) := by rw [h]; exact nI_add x k
theorem wk_iaddN (hexec : p.tables.exec = Jvm.exec) (hb : c.code = cc) {a b : Nat} (hdg : decode cc pc = .ok (.iadd, 1)) (k : W p l e R s m args below meth c H locs cells slots Q (F0 m (pc + 1) ls (.int (nI (a + b)) :: rest))) : W p l e R s m args below meth c H locs cells slots Q (F0 m pc ls (.int (nI b) :: .int (nI a) :: rest)) := lv_iadd hexec hb hdg (wk_i (nI_add a b) k)
theorem wk_imulN (hexec : p.tables.exec = Jvm.exec) (hb : c.code = cc) {a b : Nat} (hdg : decode cc pc = .ok (.imul, 1)) (k : W p l e R s m args below meth c H locs cells slots Q (F0 m (pc + 1) ls (.int (nI (a * b)) :: rest))) : W p l e R s m args below meth c H locs cells slots Q (F0 m pc ls (.int (nI b) :: .int (nI a) :: rest)) := lv_imul hexec hb hdg (wk_i (pk_mul a b) k)
theorem wk_isubN (hexec : p.tables.exec = Jvm.exec) (hb : c.code = cc) {a b : Nat} (h : b ≤ a) (hdg : decode cc pc = .ok (.isub, 1)) (k : W p l e R s m args below meth c H locs cells slots Q (F0 m (pc + 1) ls (.int (nI (a - b)) :: rest))) : W p l e R s m args below meth c H locs cells slots Q (F0 m pc ls (.int (nI b) :: .int (nI a) :: rest)) := lv_isub hexec hb hdg (wk_i (pk_sub h) k)
theorem wk_iremN (hexec : p.tables.exec = Jvm.exec) (hb : c.code = cc) {a b : Nat} (ha : a < 2 ^ 31) (h0 : 0 < b) (hb1 : b < 2 ^ 31) (hdg : decode cc pc = .ok (.irem, 1)) (k : W p l e R s m args below meth c H locs cells slots Q (F0 m (pc + 1) ls (.int (nI (a % b)) :: rest))) : W p l e R s m args below meth c H locs cells slots Q (F0 m pc ls (.int (nI b) :: .int (nI a) :: rest)) := lv_irem hexec hb hdg (nI_ne0 h0 hb1) (wk_i (pk_rem ha h0 hb1) k)
theorem wk_idivN (hexec : p.tables.exec = Jvm.exec) (hb : c.code = cc) {a b : Nat} (ha : a < 2 ^ 31) (h0 : 0 < b) (hb1 : b < 2 ^ 31) (hdg : decode cc pc = .ok (.idiv, 1)) (k : W p l e R s m args below meth c H locs cells slots Q (F0 m (pc + 1) ls (.int (nI (a / b)) :: rest))) : W p l e R s m args below meth c H locs cells slots Q (F0 m pc ls (.int (nI b) :: .int (nI a) :: rest)) := lv_idiv hexec hb hdg (nI_ne0 h0 hb1) (wk_i (pk_div ha h0 hb1) k)
theorem wk_geN (hexec : p.tables.exec = Jvm.exec) (hb : c.code = cc) {a b : Nat} {off : Int} {tgt : Nat} (ha : a < 2 ^ 31) (hb1 : b < 2 ^ 31) (hdg : decode cc pc = .ok (.if_icmp .ge off, 3)) (ht : (pc : Int) + off = (tgt : Int))
    (kt : b ≤ a → W p l e R s m args below meth c H locs cells slots Q (F0 m tgt ls rest)) (kf : a < b → W p l e R s m args below meth c H locs cells slots Q (F0 m (pc + 3) ls rest)) : W p l e R s m args below meth c H locs cells slots Q (F0 m pc ls (.int (nI b) :: .int (nI a) :: rest)) :=
  lv_icmp_ge hexec hb hdg ht (fun h => kt ((nI_leI hb1 ha).mp h)) (fun h => kf (Nat.lt_of_not_le (fun h9 => h ((nI_leI hb1 ha).mpr h9))))
theorem wk_ltN (hexec : p.tables.exec = Jvm.exec) (hb : c.code = cc) {a b : Nat} {off : Int} {tgt : Nat} (ha : a < 2 ^ 31) (hb1 : b < 2 ^ 31) (hdg : decode cc pc = .ok (.if_icmp .lt off, 3)) (ht : (pc : Int) + off = (tgt : Int))
    (kt : a < b → W p l e R s m args below meth c H locs cells slots Q (F0 m tgt ls rest)) (kf : b ≤ a → W p l e R s m args below meth c H locs cells slots Q (F0 m (pc + 3) ls rest)) : W p l e R s m args below meth c H locs cells slots Q (F0 m pc ls (.int (nI b) :: .int (nI a) :: rest)) :=
  lv_icmp_lt hexec hb hdg ht (fun h => kt ((nI_ltI ha hb1).mp h)) (fun h => kf (Nat.le_of_not_lt (fun h9 => h ((nI_ltI ha hb1).mpr h9))))
theorem wk_gtN (hexec : p.tables.exec = Jvm.exec) (hb : c.code = cc) {a b : Nat} {off : Int} {tgt : Nat} (ha : a < 2 ^ 31) (hb1 : b < 2 ^ 31) (hdg : decode cc pc = .ok (.if_icmp .gt off, 3)) (ht : (pc : Int) + off = (tgt : Int))
    (kt : b < a → W p l e R s m args below meth c H locs cells slots Q (F0 m tgt ls rest)) (kf : a ≤ b → W p l e R s m args below meth c H locs cells slots Q (F0 m (pc + 3) ls rest)) : W p l e R s m args below meth c H locs cells slots Q (F0 m pc ls (.int (nI b) :: .int (nI a) :: rest)) :=
  lv_icmp_gt hexec hb hdg ht (fun h => kt ((nI_ltI hb1 ha).mp h)) (fun h => kf (Nat.le_of_not_lt (fun h9 => h ((nI_ltI hb1 ha).mpr h9))))
theorem wk_leN (hexec : p.tables.exec = Jvm.exec) (hb : c.code = cc) {a b : Nat} {off : Int} {tgt : Nat} (ha : a < 2 ^ 31) (hb1 : b < 2 ^ 31) (hdg : decode cc pc = .ok (.if_icmp .le off, 3)) (ht : (pc : Int) + off = (tgt : Int))
    (kt : a ≤ b → W p l e R s m args below meth c H locs cells slots Q (F0 m tgt ls rest)) (kf : b < a → W p l e R s m args below meth c H locs cells slots Q (F0 m (pc + 3) ls rest)) : W p l e R s m args below meth c H locs cells slots Q (F0 m pc ls (.int (nI b) :: .int (nI a) :: rest)) :=
  lv_icmp_le hexec hb hdg ht (fun h => kt ((nI_leI ha hb1).mp h)) (fun h => kf (Nat.lt_of_not_le (fun h9 => h ((nI_leI ha hb1).mpr h9))))
theorem wk_eqN (hexec : p.tables.exec = Jvm.exec) (hb : c.code = cc) {a b : Nat} {off : Int} {tgt : Nat} (ha : a < 2 ^ 31) (hb1 : b < 2 ^ 31) (hdg : decode cc pc = .ok (.if_icmp .eq off, 3)) (ht : (pc : Int) + off = (tgt : Int))
    (kt : a = b → W p l e R s m args below meth c H locs cells slots Q (F0 m tgt ls rest)) (kf : a ≠ b → W p l e R s m args below meth c H locs cells slots Q (F0 m (pc + 3) ls rest)) : W p l e R s m args below meth c H locs cells slots Q (F0 m pc ls (.int (nI b) :: .int (nI a) :: rest)) :=
  lv_icmp_eq hexec hb hdg ht (fun h => kt ((nI_eq ha hb1).mp h)) (fun h => kf (fun h9 => h ((nI_eq ha hb1).mpr h9)))
theorem wk_neN (hexec : p.tables.exec = Jvm.exec) (hb : c.code = cc) {a b : Nat} {off : Int} {tgt : Nat} (ha : a < 2 ^ 31) (hb1 : b < 2 ^ 31) (hdg : decode cc pc = .ok (.if_icmp .ne off, 3)) (ht : (pc : Int) + off = (tgt : Int))
    (kt : a ≠ b → W p l e R s m args below meth c H locs cells slots Q (F0 m tgt ls rest)) (kf : a = b → W p l e R s m args below meth c H locs cells slots Q (F0 m (pc + 3) ls rest)) : W p l e R s m args below meth c H locs cells slots Q (F0 m pc ls (.int (nI b) :: .int (nI a) :: rest)) :=
  lv_icmp_ne hexec hb hdg ht (fun h => kt (fun h9 => h ((nI_eq ha hb1).mpr h9))) (fun h => kf ((nI_eq ha hb1).mp h))
theorem wk_eq0N (hexec : p.tables.exec = Jvm.exec) (hb : c.code = cc) {a : Nat} {off : Int} {tgt : Nat} (ha : a < 2 ^ 31) (hdg : decode cc pc = .ok (.ifCond .eq off, 3)) (ht : (pc : Int) + off = (tgt : Int))
    (kt : a = 0 → W p l e R s m args below meth c H locs cells slots Q (F0 m tgt ls rest)) (kf : a ≠ 0 → W p l e R s m args below meth c H locs cells slots Q (F0 m (pc + 3) ls rest)) : W p l e R s m args below meth c H locs cells slots Q (F0 m pc ls (.int (nI a) :: rest)) :=
  lv_if_eq hexec hb hdg ht (fun h => kt ((nI_eq (b := 0) ha (by decide)).mp h)) (fun h => kf (fun h9 => h ((nI_eq (b := 0) ha (by decide)).mpr h9)))
theorem wk_ne0N (hexec : p.tables.exec = Jvm.exec) (hb : c.code = cc) {a : Nat} {off : Int} {tgt : Nat} (ha : a < 2 ^ 31) (hdg : decode cc pc = .ok (.ifCond .ne off, 3)) (ht : (pc : Int) + off = (tgt : Int))
    (kt : a ≠ 0 → W p l e R s m args below meth c H locs cells slots Q (F0 m tgt ls rest)) (kf : a = 0 → W p l e R s m args below meth c H locs cells slots Q (F0 m (pc + 3) ls rest)) : W p l e R s m args below meth c H locs cells slots Q (F0 m pc ls (.int (nI a) :: rest)) :=
  lv_if_ne hexec hb hdg ht (fun h => kt (fun h9 => h ((nI_eq (b := 0) ha (by decide)).mpr h9))) (fun h => kf ((nI_eq (b := 0) ha (by decide)).mp h))
variable {D : va_G} {cl : List vw_C} {A : Nat → Prop} {a : Nat} {tys : List (ClassId × FieldType)} {ws : va_W} {H0 : Heap}
theorem wk_iald (hexec : p.tables.exec = Jvm.exec) (hb : c.code = cc) (hK : va_K D cl tys s) (hP : va_P D cl ws H) (q0 t0 : Nat) {cA : ClassId} {n : Nat} {f : Nat → Int32} (ha : ws[q0]? = some (a, .inl (cA, n, .inl f))) (ht : tys[t0]? = some (cA, .int)) {k : Nat} (hk : k < n) (hn : n < 2 ^ 31) (hdg : decode cc pc = .ok (.iaload, 1))
    (kk : W p l e R s m args below meth c H locs cells slots Q (F0 m (pc + 1) ls (.int (f k) :: rest))) : W p l e R s m args below meth c H locs cells slots Q (F0 m pc ls (.int (nI k) :: .ref a :: rest)) :=
  va_iald hexec hb hK hP q0 t0 ha ht (vp_in_nI hk hn) hdg (by rw [nI_clamp (Nat.lt_trans hk hn)]; exact kk)
theorem wk_iast (hexec : p.tables.exec = Jvm.exec) (hb : c.code = cc) (hK : va_K D cl tys s) (hP : va_P D cl ws H) (hD : va_D A ws) (hS : va_S A H0 H locs) (q0 t0 : Nat) {cA : ClassId} {n : Nat} {f : Nat → Int32} (ha : ws[q0]? = some (a, .inl (cA, n, .inl f))) (ht : tys[t0]? = some (cA, .int)) {k : Nat} {x : Int32} (hk : k < n) (hn : n < 2 ^ 31) (hdg : decode cc pc = .ok (.iastore, 1))
    (kk : ∀ (H1 : Heap) (locs1 : List Loc), va_P D cl (ws.set q0 (a, .inl (cA, n, .inl (upd f k x)))) H1 → va_D A (ws.set q0 (a, .inl (cA, n, .inl (upd f k x)))) → va_S A H0 H1 locs1 → W p l e R s m args below meth c H1 locs1 cells slots Q (F0 m (pc + 1) ls rest)) : W p l e R s m args below meth c H locs cells slots Q (F0 m pc ls (.int x :: .int (nI k) :: .ref a :: rest)) :=
  va_iast hexec hb hK hP hD hS q0 t0 ha ht (vp_in_nI hk hn) hdg (by rw [nI_clamp (Nat.lt_trans hk hn)]; exact kk)
theorem wk_tbl (hexec : p.tables.exec = Jvm.exec) (hb : c.code = cc) {t : Nat} (hT : va_T .int t 128 (fun j => .int (TB j)) A s s.heap) (hS : va_S A s.heap H locs) {k : Nat} (hk : k < 128) (hdg : decode cc pc = .ok (.iaload, 1))
    (kk : W p l e R s m args below meth c H locs cells slots Q (F0 m (pc + 1) ls (.int (TB k) :: rest))) : W p l e R s m args below meth c H locs cells slots Q (F0 m pc ls (.int (nI k) :: .ref t :: rest)) :=
  va_ti hexec hb hT hS (vp_in_nI hk (by decide)) (v := .int (TB k)) (by rw [nI_clamp (by omega)]) hdg kk
end
/-! what a method is given, what it gives back -/
def PW (D : va_G) (tys : List (ClassId × FieldType)) (ws : va_W) (sz : Nat) (U : State) : Prop := U.heap.size = sz ∧ va_P D vwCl ws U.heap ∧ va_K D vwCl tys U ∧ va_D (fun _ => True) ws
def BW (D : va_G) (tys : List (ClassId × FieldType)) (A : Nat → Prop) (ws : va_W) (t : State) : Prop := va_P D vwCl ws t.heap ∧ va_K D vwCl tys t ∧ va_D A ws
/-- the class's table of boxes, where it lies -/
def bxs (tb : Nat) (A : Nat → Prop) (U : State) (H : Heap) : Prop := va_Z "SlicedCipher" "BOXES" "[I" (.ref tb) A U H ∧ va_T .int tb 128 (fun j => .int (TB j)) A U H
theorem bxs.moved {tb : Nat} {A : Nat → Prop} {u U : State} {H : Heap} (hvm : u.vm.Alike U.vm) (h : bxs tb A u H) : bxs tb A U H := ⟨va_Z.moved hvm h.1, va_T.moved hvm h.2⟩
theorem bxs.kept {tb : Nat} {A : Nat → Prop} {U : State} {H H1 : Heap} (h : bxs tb A U H) (hq : ∀ a : Nat, a < H.size → ¬ A a → H1[a]? = H[a]?) : bxs tb A U H1 := ⟨va_Z.kept h.1 hq, va_T.kept h.2 hq⟩
theorem bxs.narrow {tb : Nat} {A B : Nat → Prop} {U : State} {H : Heap} (h : bxs tb A U H) (hAB : ∀ q, B q → A q) : bxs tb B U H := ⟨va_Z.narrow h.1 hAB, va_T.narrow h.2 hAB⟩
theorem PW.call {D : va_G} {tys : List (ClassId × FieldType)} {ws : va_W} {sz : Nat} {U : State} (g : JFrame) (mk : MethodId) (a : Array Value) (h : PW D tys ws sz U) : PW D tys ws sz (U.calling g mk a) := ⟨h.1, h.2.1, va_K.moved (u := U) (U := U.calling g mk a) (Vm.Alike.refl U.vm) h.2.2.1, h.2.2.2⟩
theorem bxs.call {tb : Nat} {A : Nat → Prop} {U : State} (g : JFrame) (mk : MethodId) (a : Array Value) (h : bxs tb A U U.heap) : bxs tb A (U.calling g mk a) (U.calling g mk a).heap := bxs.moved (u := U) (U := U.calling g mk a) (Vm.Alike.refl U.vm) h
/-- the boxes for a callee -/
theorem bxs.give {tb : Nat} {A B : Nat → Prop} {s : State} {H : Heap} {locs : List Loc} (h : bxs tb A s s.heap) (hS : va_S A s.heap H locs) (hBA : ∀ q, B q → A q) {U : State} (hU : U.heap = H) (hW : s.WarmedH U.vm) : bxs tb B U U.heap := by
  rw [hU]
  exact ((h.kept hS.2.1).narrow hBA).moved hW.alike
section
variable {p : Program} {l : Launch} {e : Env} {R : Room} {s : State} {m : MethodId} {args : Array Value} {below : List Frame} {meth : Method} {c : Code} {H : Heap} {locs : List Loc} {cells slots : Nat} {Q : State → Prop} {cc : ByteArray} {pc : Nat} {ls : Array Slot} {rest : List Value}
variable {y : MethodName} {bytes : ByteArray} {maxL nL n index : Nat} {ret : Option FieldType} {wy : List Cond} {rm : Room} {Ts : List Cond} {own C : String} {As st0 : List Value} {D : va_G} {tys : List (ClassId × FieldType)} {ws wc wr w1 w2 : va_W} {A : Nat → Prop} {X : State → Prop} {b : Nat}
/-- a static function of ints alone -/
theorem wk_Sp {v : Int32} (S : CallFix p m c cc nL s args Ts own) (hM : Met l y wy rm (va_Pc As (fun _ => True)) (vp_Si (fun r => r = v)) 0 0 (fun _ => False)) (cw : CallB R s args own index y bytes maxL ret wy rm 0 0 n ∧ (Cond.static y).before args s = true)
    (hn : As.length = n) (hsize : ls.size = nL) (hst : st0 = As.reverse ++ rest) (hW : (rest.map fun v => v.category).sum ≤ 8) (hdg : decode cc pc = .ok (.invokestatic index, 3)) (hf : cells ≤ R.cells ∧ slots ≤ R.slots)
    (kk : W p l e R s m args below meth c H locs cells slots Q (F0 m (pc + 3) ls (.int v :: rest))) : W p l e R s m args below meth c H locs cells slots Q (F0 m pc ls st0) :=
  vp_callSi (va_Run.run (va_runS (As := As) (rest := rest) S hM cw ⟨fun _ _ _ _ h => ⟨h.1, trivial⟩, fun _ _ _ => ⟨rfl, trivial⟩⟩ rfl hn hsize hst (lv_room hW) hdg hf)) (fun r h => by rw [h]; exact kk)
/-- a static method that reads the world and answers an int -/
theorem wk_Si {post : Int32 → Prop} (S : CallFix p m c cc nL s args Ts own) (hM : Met l y wy rm (va_Pc As (fun U => PW D tys wc H.size U ∧ X U)) (vp_Si post) 0 0 (fun _ => False)) (cw : CallB R s args own index y bytes maxL ret wy rm 0 0 n ∧ (Cond.static y).before args s = true)
    (hXb : ∀ (U : State) (g : JFrame) (mk : MethodId) (a : Array Value), X U → X (U.calling g mk a)) (hX : ∀ U : State, U.heap = H → s.WarmedH U.vm → X U) (hK : va_K D vwCl tys s) (hP : va_P D vwCl ws H) (hD : va_D A ws)
    (isC : List Nat) (hC : isC.map (fun i => ws[i]?) = wc.map some) (hnC : va_nd isC = true)
    (hn : As.length = n) (hsize : ls.size = nL) (hst : st0 = As.reverse ++ rest) (hW : (rest.map fun v => v.category).sum ≤ 8) (hdg : decode cc pc = .ok (.invokestatic index, 3)) (hf : cells ≤ R.cells ∧ slots ≤ R.slots)
    (kk : ∀ v : Int32, post v → W p l e R s m args below meth c H locs cells slots Q (F0 m (pc + 3) ls (.int v :: rest))) : W p l e R s m args below meth c H locs cells slots Q (F0 m pc ls st0) := by
  have hPc := hP.sub (ws' := wc) isC (fm_of_map _ _ _ hC)
  have hDc := hD.sub (ws' := wc) isC hnC hC
  exact vp_callSi (va_Run.run (va_runS (As := As) (rest := rest) S hM cw ⟨fun a U g mk h => ⟨h.1, PW.call g mk a h.2.1, hXb U g mk a h.2.2⟩, fun U hU hW9 => ⟨rfl, ⟨by rw [hU], by rw [hU]; exact hPc, va_K.moved hW9.alike hK, hDc.weaken (fun _ _ _ _ => trivial)⟩, hX U hU hW9⟩⟩ rfl hn hsize hst (lv_room hW) hdg hf)) kk
/-- a method of an object that reads the world and answers an int -/
theorem wk_Vi {post : Int32 → Prop} {ci q0 : Nat} {q9 : vw_C} {fs : List Value} (S : CallFix p m c cc nL s args Ts own) (hM : Met l y wy rm (va_Pc (.ref b :: As) (fun U => PW D tys wc H.size U ∧ X U)) (vp_Si post) 0 0 (fun _ => False)) (cw : CallW R s args own q9.1 index y bytes maxL ret wy rm 0 0 n)
    (hXb : ∀ (U : State) (g : JFrame) (mk : MethodId) (a : Array Value), X U → X (U.calling g mk a)) (hX : ∀ U : State, U.heap = H → s.WarmedH U.vm → X U) (hK : va_K D vwCl tys s) (hP : va_P D vwCl ws H) (hD : va_D A ws) (hc : vwCl[ci]? = some q9) (he : ws[q0]? = some (b, .inr (ci, fs)))
    (isC : List Nat) (hC : isC.map (fun i => ws[i]?) = wc.map some) (hnC : va_nd isC = true)
    (hn : As.length = n) (hsize : ls.size = nL) (hst : st0 = As.reverse ++ .ref b :: rest) (hW : (rest.map fun v => v.category).sum ≤ 8) (hdg : decode cc pc = .ok (.invokevirtual index, 3)) (hf : cells ≤ R.cells ∧ slots ≤ R.slots)
    (kk : ∀ v : Int32, post v → W p l e R s m args below meth c H locs cells slots Q (F0 m (pc + 3) ls (.int v :: rest))) : W p l e R s m args below meth c H locs cells slots Q (F0 m pc ls st0) := by
  have hPc := hP.sub (ws' := wc) isC (fm_of_map _ _ _ hC)
  have hDc := hD.sub (ws' := wc) isC hnC hC
  exact vp_callSi (va_Run.run (va_runV (As := As) (rest := rest) S hM cw ⟨fun a U g mk h => ⟨h.1, PW.call g mk a h.2.1, hXb U g mk a h.2.2⟩, va_recv hK hP hc he, fun U hU hW9 => ⟨rfl, ⟨by rw [hU], by rw [hU]; exact hPc, va_K.moved hW9.alike hK, hDc.weaken (fun _ _ _ _ => trivial)⟩, hX U hU hW9⟩⟩ rfl hn hsize hst (lv_room hW) hdg hf)) kk
/-- a static method that changes cells of the world -/
theorem wk_Sv (S : CallFix p m c cc nL s args Ts own) (hM : Met l y wy rm (va_Pc As (fun U => PW D tys wc H.size U ∧ X U)) (va_Qv (fun _ : Unit => True) (fun _ => BW D tys (va_A wc H.size) w1) (va_A wc H.size)) 0 0 (va_A wc H.size)) (cw : CallB R s args own index y bytes maxL ret wy rm 0 0 n ∧ (Cond.static y).before args s = true)
    (hXb : ∀ (U : State) (g : JFrame) (mk : MethodId) (a : Array Value), X U → X (U.calling g mk a)) (hX : (∀ q, va_A wc H.size q → A q) → ∀ U : State, U.heap = H → s.WarmedH U.vm → X U) (hK : va_K D vwCl tys s) (hP : va_P D vwCl ws H) (hD : va_D A ws) (hS : va_S A s.heap H locs) (hA : ∀ q : Nat, s.heap.size ≤ q → A q)
    (isC isR : List Nat) (hC : isC.map (fun i => ws[i]?) = wc.map some) (hnC : va_nd isC = true) (hR : isR.map (fun i => ws[i]?) = wr.map some) (hnR : va_nd isR = true) (hdis : ∀ i ∈ isR, i ∉ isC) (isF : List Nat) (hF : isF.map (fun i => (wr ++ w1)[i]?) = w2.map some) (hnF : va_nd isF = true)
    (hn : As.length = n) (hsize : ls.size = nL) (hst : st0 = As.reverse ++ rest) (hW : (rest.map fun v => v.category).sum ≤ 8) (hdg : decode cc pc = .ok (.invokestatic index, 3)) (hf : cells ≤ R.cells ∧ slots ≤ R.slots)
    (kk : ∀ (H1 : Heap) (locs1 : List Loc), va_P D vwCl w2 H1 → va_D A w2 → va_S A s.heap H1 locs1 → W p l e R s m args below meth c H1 locs1 cells slots Q (F0 m (pc + 3) ls rest)) : W p l e R s m args below meth c H locs cells slots Q (F0 m pc ls st0) := by
  have hPc := hP.sub (ws' := wc) isC (fm_of_map _ _ _ hC)
  have hDc := hD.sub (ws' := wc) isC hnC hC
  have hFc := va_free (wc := wc) hD hS hA isC hC
  refine va_callv (va_runS (As := As) (rest := rest) S hM cw ⟨fun a U g mk h => ⟨h.1, PW.call g mk a h.2.1, hXb U g mk a h.2.2⟩, fun U hU hW9 => ⟨rfl, ⟨by rw [hU], by rw [hU]; exact hPc, va_K.moved hW9.alike hK, hDc.weaken (fun _ _ _ _ => trivial)⟩, hX hFc U hU hW9⟩⟩ rfl hn hsize hst (lv_room hW) hdg hf) hS (fun q _ h => hFc q h) hFc (fun u t H1 locs1 ht hvm hw hB hz1 hk1 hS1 => ?_)
  obtain ⟨hP1, hK1, hD1⟩ := hB
  rw [ht] at hP1
  obtain ⟨hP2, hD2⟩ := va_join (wr := wr) (w1 := w1) hP hD isC isR hC hR hnR hdis hk1 hFc hP1 hD1
  exact kk H1 locs1 (hP2.sub isF (fm_of_map _ _ _ hF)) (hD2.sub isF hnF hF) hS1
/-- a method of an object that changes cells of the world -/
theorem wk_Vv {ci q0 : Nat} {q9 : vw_C} {fs : List Value} (S : CallFix p m c cc nL s args Ts own) (hM : Met l y wy rm (va_Pc (.ref b :: As) (fun U => PW D tys wc H.size U ∧ X U)) (va_Qv (fun _ : Unit => True) (fun _ => BW D tys (va_A wc H.size) w1) (va_A wc H.size)) 0 0 (va_A wc H.size)) (cw : CallW R s args own q9.1 index y bytes maxL ret wy rm 0 0 n)
    (hXb : ∀ (U : State) (g : JFrame) (mk : MethodId) (a : Array Value), X U → X (U.calling g mk a)) (hX : (∀ q, va_A wc H.size q → A q) → ∀ U : State, U.heap = H → s.WarmedH U.vm → X U) (hK : va_K D vwCl tys s) (hP : va_P D vwCl ws H) (hD : va_D A ws) (hS : va_S A s.heap H locs) (hA : ∀ q : Nat, s.heap.size ≤ q → A q) (hc : vwCl[ci]? = some q9) (he : ws[q0]? = some (b, .inr (ci, fs)))
    (isC isR : List Nat) (hC : isC.map (fun i => ws[i]?) = wc.map some) (hnC : va_nd isC = true) (hR : isR.map (fun i => ws[i]?) = wr.map some) (hnR : va_nd isR = true) (hdis : ∀ i ∈ isR, i ∉ isC) (isF : List Nat) (hF : isF.map (fun i => (wr ++ w1)[i]?) = w2.map some) (hnF : va_nd isF = true)
    (hn : As.length = n) (hsize : ls.size = nL) (hst : st0 = As.reverse ++ .ref b :: rest) (hW : (rest.map fun v => v.category).sum ≤ 8) (hdg : decode cc pc = .ok (.invokevirtual index, 3)) (hf : cells ≤ R.cells ∧ slots ≤ R.slots)
    (kk : ∀ (H1 : Heap) (locs1 : List Loc), va_P D vwCl w2 H1 → va_D A w2 → va_S A s.heap H1 locs1 → W p l e R s m args below meth c H1 locs1 cells slots Q (F0 m (pc + 3) ls rest)) : W p l e R s m args below meth c H locs cells slots Q (F0 m pc ls st0) := by
  have hPc := hP.sub (ws' := wc) isC (fm_of_map _ _ _ hC)
  have hDc := hD.sub (ws' := wc) isC hnC hC
  have hFc := va_free (wc := wc) hD hS hA isC hC
  refine va_callv (va_runV (As := As) (rest := rest) S hM cw ⟨fun a U g mk h => ⟨h.1, PW.call g mk a h.2.1, hXb U g mk a h.2.2⟩, va_recv hK hP hc he, fun U hU hW9 => ⟨rfl, ⟨by rw [hU], by rw [hU]; exact hPc, va_K.moved hW9.alike hK, hDc.weaken (fun _ _ _ _ => trivial)⟩, hX hFc U hU hW9⟩⟩ rfl hn hsize hst (lv_room hW) hdg hf) hS (fun q _ h => hFc q h) hFc (fun u t H1 locs1 ht hvm hw hB hz1 hk1 hS1 => ?_)
  obtain ⟨hP1, hK1, hD1⟩ := hB
  rw [ht] at hP1
  obtain ⟨hP2, hD2⟩ := va_join (wr := wr) (w1 := w1) hP hD isC isR hC hR hnR hdis hk1 hFc hP1 hD1
  exact kk H1 locs1 (hP2.sub isF (fm_of_map _ _ _ hF)) (hD2.sub isF hnF hF) hS1
end
end
section
/-! the JDK's and the class's functions of ints -/
def rotL (x y : Int32) : Int32 := (x <<< (y &&& 31)) ||| (x.toUInt32 >>> ((-y).toUInt32 &&& Int32.toUInt32 31)).toInt32
def rotR (x y : Int32) : Int32 := (x.toUInt32 >>> (y.toUInt32 &&& Int32.toUInt32 31)).toInt32 ||| (x <<< ((-y) &&& 31))
def lbe (x : Int32) : Int32 := -(x &&& nI 1)
def plw (x y : Int32) : Int32 := (x ^^^ lbe y) ^^^ (-1)
theorem wk_ofWF {l : Launch} {y : MethodName} {ws ws' : List Cond} {rm : Room} {Pc : Array Value → State → Prop} {Qc : Array Value → State → Outcome → State → Prop} {mc ms : Nat} {free : Addr → Prop} {cc : ByteArray} {maxL : Nat} {ret : Option FieldType}
    (hy : plainFor y = true) (hw : ws = Cond.code y cc maxL ret :: ws')
    (body : ∀ p e s m args below meth c s₁, BodyLoose p l y (headSpec ws rm) cc maxL ret e s m args below meth c s₁ → c.maxLocals = maxL → Pc args s →
      W p l e (headSpec ws rm).room s m args below meth c s.heap [] 0 0 (MQ below Qc args s mc ms free) (entryFrame m args maxL)) : Met l y ws rm Pc Qc mc ms free := by
  refine MetFree.of_bodySF (code := cc) (maxLocals := maxL) (ret := ret) hy ?_ ?_
  · intro args s m h hn
    obtain ⟨meth, c, h1, h2, h3, h4, h5, h6, -, -⟩ := Cond.code_spec hn (atoms_spec (ws := ws) h _ (by rw [hw]; exact List.mem_cons_self))
    exact ⟨meth, c, h1, h2, h3, h4, h5, h6⟩
  · intro p e s m args below meth c s₁ B hml hP _
    have hh0 : s₁.heap = s.heap := by rw [B.state]; rfl
    obtain ⟨t, a1, o, b1, b2, b3⟩ := body p e s m args below meth c s₁ B hml hP s₁ hh0 (Stand.of_body B)
    exact ⟨t, o, a1, b1, b2, ⟨b3.1, b3.2⟩⟩
def fmQ (r : Nat) : Int32 := (nI 3 - nI r) - (nI 3 - nI r) / nI 8 * nI 8
theorem fm_a : ∀ r, r < 33 → 0 ≤ (nI 3 - nI r) ^^^ nI 8 → fmQ r = nI ((35 - r) % 8) := by decide +kernel
theorem fm_b : ∀ r, r < 33 → ¬ 0 ≤ (nI 3 - nI r) ^^^ nI 8 → fmQ r = 0 → fmQ r = nI ((35 - r) % 8) := by decide +kernel
theorem fm_c : ∀ r, r < 33 → ¬ 0 ≤ (nI 3 - nI r) ^^^ nI 8 → ¬ fmQ r = 0 → fmQ r + nI 8 = nI ((35 - r) % 8) := by decide +kernel
set_option maxHeartbeats 4000000 in
set_option maxRecDepth 100000 in
theorem c_J6_rotateLeft (l : Launch) (x y : Int32) : Met l yJ6_rotateLeft_7cf53 wsJ6_rotateLeft_7cf53 ({ frames := 0, cells := 0, slots := 0, locals := 0 }) (va_Pc [.int x, .int y] (fun _ => True)) (vp_Si (fun r9 => r9 = rotL x y)) 0 0 (fun _ => False) := by
  refine Met.ofW (cc := cJ6_rotateLeft_7cf53) (maxL := 2) (ret := (some .int)) (by decide) rfl ?_
  intro p e s m args below meth c s₁ B hml hv
  obtain ⟨rfl, -⟩ := hv
  have hx := B.exec
  have hb := B.bytes
  have hr := B.returns
  have hts := atoms_spec (ws := wsJ6_rotateLeft_7cf53) B.pre
  have hown : s.vm.findClass RJ6 = some m.cls := findClass_of_methodNamed B.named
  have hlocks := B.notSynchronized
  have hl := lv_entry ([.int x, .int y]) (n := 2) (Nat.le_of_ble_eq_true rfl)
  rw [lg_entry_eq]
  generalize (lg_sl ([.int x, .int y]) ++ List.replicate (2 - (lg_sl ([.int x, .int y])).length) Slot.unset).toArray = ls at hl ⊢
  have hl : lv_has ls 2 [(0, .int x), (1, .int y)] := hl
  refine lv_iload_n hx hb dJ6_rotateLeft_7cf53_0 rfl (lv_at hl 0 rfl) ?_
  refine lv_iload_n hx hb dJ6_rotateLeft_7cf53_1 rfl (lv_at hl 1 rfl) ?_
  refine lv_ishl hx hb dJ6_rotateLeft_7cf53_2 ?_
  refine lv_iload_n hx hb dJ6_rotateLeft_7cf53_3 rfl (lv_at hl 0 rfl) ?_
  refine lv_iload_n hx hb dJ6_rotateLeft_7cf53_4 rfl (lv_at hl 1 rfl) ?_
  refine lv_ineg hx hb dJ6_rotateLeft_7cf53_5 ?_
  refine lv_iushr (v := (x.toUInt32 >>> ((-y).toUInt32 &&& Int32.toUInt32 31)).toInt32) hx hb dJ6_rotateLeft_7cf53_6 rfl ?_
  refine lv_ior hx hb dJ6_rotateLeft_7cf53_7 ?_
  exact W.iret (v := (x <<< (y &&& 31)) ||| ((x.toUInt32 >>> ((-y).toUInt32 &&& Int32.toUInt32 31)).toInt32)) hx hb hr (fun t ht hW => ⟨_, rfl, rfl, ht⟩) (fun q h => absurd h List.not_mem_nil) dJ6_rotateLeft_7cf53_8
set_option maxHeartbeats 4000000 in
set_option maxRecDepth 100000 in
theorem c_J6_rotateRight (l : Launch) (x y : Int32) : Met l yJ6_rotateRight_7cf53 wsJ6_rotateRight_7cf53 ({ frames := 0, cells := 0, slots := 0, locals := 0 }) (va_Pc [.int x, .int y] (fun _ => True)) (vp_Si (fun r9 => r9 = rotR x y)) 0 0 (fun _ => False) := by
  refine Met.ofW (cc := cJ6_rotateRight_7cf53) (maxL := 2) (ret := (some .int)) (by decide) rfl ?_
  intro p e s m args below meth c s₁ B hml hv
  obtain ⟨rfl, -⟩ := hv
  have hx := B.exec
  have hb := B.bytes
  have hr := B.returns
  have hts := atoms_spec (ws := wsJ6_rotateRight_7cf53) B.pre
  have hown : s.vm.findClass RJ6 = some m.cls := findClass_of_methodNamed B.named
  have hlocks := B.notSynchronized
  have hl := lv_entry ([.int x, .int y]) (n := 2) (Nat.le_of_ble_eq_true rfl)
  rw [lg_entry_eq]
  generalize (lg_sl ([.int x, .int y]) ++ List.replicate (2 - (lg_sl ([.int x, .int y])).length) Slot.unset).toArray = ls at hl ⊢
  have hl : lv_has ls 2 [(0, .int x), (1, .int y)] := hl
  refine lv_iload_n hx hb dJ6_rotateRight_7cf53_0 rfl (lv_at hl 0 rfl) ?_
  refine lv_iload_n hx hb dJ6_rotateRight_7cf53_1 rfl (lv_at hl 1 rfl) ?_
  refine lv_iushr (v := (x.toUInt32 >>> (y.toUInt32 &&& Int32.toUInt32 31)).toInt32) hx hb dJ6_rotateRight_7cf53_2 rfl ?_
  refine lv_iload_n hx hb dJ6_rotateRight_7cf53_3 rfl (lv_at hl 0 rfl) ?_
  refine lv_iload_n hx hb dJ6_rotateRight_7cf53_4 rfl (lv_at hl 1 rfl) ?_
  refine lv_ineg hx hb dJ6_rotateRight_7cf53_5 ?_
  refine lv_ishl hx hb dJ6_rotateRight_7cf53_6 ?_
  refine lv_ior hx hb dJ6_rotateRight_7cf53_7 ?_
  exact W.iret (v := ((x.toUInt32 >>> (y.toUInt32 &&& Int32.toUInt32 31)).toInt32) ||| (x <<< ((-y) &&& 31))) hx hb hr (fun t ht hW => ⟨_, rfl, rfl, ht⟩) (fun q h => absurd h List.not_mem_nil) dJ6_rotateRight_7cf53_8
set_option maxHeartbeats 4000000 in
set_option maxRecDepth 100000 in
theorem c_J9_floorMod (l : Launch) (r : Nat) (h : r < 33) : Met l yJ9_floorMod_7cf53 wsJ9_floorMod_7cf53 ({ frames := 0, cells := 0, slots := 0, locals := 0 }) (va_Pc [.int (nI 3 - nI r), .int (nI 8)] (fun _ => True)) (vp_Si (fun v => v = nI ((35 - r) % 8))) 0 0 (fun _ => False) := by
  refine wk_ofWF (cc := cJ9_floorMod_7cf53) (maxL := 3) (ret := (some .int)) (by decide +kernel) rfl ?_
  intro p e s m args below meth c s₁ B hml hv
  obtain ⟨rfl, -⟩ := hv
  have hx := B.exec
  have hb := B.bytes
  have hr := B.returns
  have hts := atoms_spec (ws := wsJ9_floorMod_7cf53) B.pre
  have hown : s.vm.findClass RJ9 = some m.cls := findClass_of_methodNamed B.named
  have hlocks := B.notSynchronized
  have hl := lv_entry ([.int (nI 3 - nI r), .int (nI 8)]) (n := 3) (Nat.le_of_ble_eq_true rfl)
  rw [lg_entry_eq]
  generalize (lg_sl ([.int (nI 3 - nI r), .int (nI 8)]) ++ List.replicate (3 - (lg_sl ([.int (nI 3 - nI r), .int (nI 8)])).length) Slot.unset).toArray = ls at hl ⊢
  have hl : lv_has ls 3 [(0, .int (nI 3 - nI r)), (1, .int (nI 8))] := hl
  refine lv_iload_n hx hb dJ9_floorMod_7cf53_0 rfl (lv_at hl 0 rfl) ?_
  refine lv_iload_n hx hb dJ9_floorMod_7cf53_1 rfl (lv_at hl 1 rfl) ?_
  refine lv_irem hx hb dJ9_floorMod_7cf53_2 (by decide) ?_
  refine wk_i (y := fmQ r) rfl ?_
  refine lv_istore_n (lv' := [(2, .int (fmQ r)), (0, .int (nI 3 - nI r)), (1, .int (nI 8))]) hx hb dJ9_floorMod_7cf53_3 rfl hl (by decide) rfl (fun ls hl => ?_)
  refine lv_iload_n hx hb dJ9_floorMod_7cf53_4 rfl (lv_at hl 1 rfl) ?_
  refine lv_iload_n hx hb dJ9_floorMod_7cf53_5 rfl (lv_at hl 2 rfl) ?_
  refine lv_ixor hx hb dJ9_floorMod_7cf53_6 ?_
  refine lv_if_ge (tgt := 18) hx hb dJ9_floorMod_7cf53_7 (by decide) (fun c7 => ?_) (fun c7 => ?_)
  · refine lv_iload_n hx hb dJ9_floorMod_7cf53_18 rfl (lv_at hl 0 rfl) ?_
    exact W.iret (v := fmQ r) hx hb hr (fun t ht hW => ⟨_, rfl, fm_a r h c7, ht⟩) (fun q h => absurd h List.not_mem_nil) dJ9_floorMod_7cf53_19
  · refine lv_iload_n hx hb dJ9_floorMod_7cf53_10 rfl (lv_at hl 0 rfl) ?_
    refine lv_if_eq (tgt := 18) hx hb dJ9_floorMod_7cf53_11 (by decide) (fun c11 => ?_) (fun c11 => ?_)
    · refine lv_iload_n hx hb dJ9_floorMod_7cf53_18 rfl (lv_at hl 0 rfl) ?_
      exact W.iret (v := fmQ r) hx hb hr (fun t ht hW => ⟨_, rfl, fm_b r h c7 c11, ht⟩) (fun q h => absurd h List.not_mem_nil) dJ9_floorMod_7cf53_19
    · refine lv_iload_n hx hb dJ9_floorMod_7cf53_14 rfl (lv_at hl 0 rfl) ?_
      refine lv_iload_n hx hb dJ9_floorMod_7cf53_15 rfl (lv_at hl 2 rfl) ?_
      refine lv_iadd hx hb dJ9_floorMod_7cf53_16 ?_
      exact W.iret (v := (fmQ r) + (nI 8)) hx hb hr (fun t ht hW => ⟨_, rfl, fm_c r h c7 c11, ht⟩) (fun q h => absurd h List.not_mem_nil) dJ9_floorMod_7cf53_17
set_option maxHeartbeats 4000000 in
set_option maxRecDepth 100000 in
theorem c_X0_lowestBitEverywhere (l : Launch) (x : Int32) : Met l yX0_lowestBitEverywhere wsX0_lowestBitEverywhere ({ frames := 0, cells := 0, slots := 0, locals := 0 }) (va_Pc [.int x] (fun _ => True)) (vp_Si (fun r9 => r9 = lbe x)) 0 0 (fun _ => False) := by
  refine Met.ofW (cc := cX0_lowestBitEverywhere) (maxL := 1) (ret := (some .int)) (by decide) rfl ?_
  intro p e s m args below meth c s₁ B hml hv
  obtain ⟨rfl, -⟩ := hv
  have hx := B.exec
  have hb := B.bytes
  have hr := B.returns
  have hts := atoms_spec (ws := wsX0_lowestBitEverywhere) B.pre
  have hown : s.vm.findClass RX0 = some m.cls := findClass_of_methodNamed B.named
  have hlocks := B.notSynchronized
  have hl := lv_entry ([.int x]) (n := 1) (Nat.le_of_ble_eq_true rfl)
  rw [lg_entry_eq]
  generalize (lg_sl ([.int x]) ++ List.replicate (1 - (lg_sl ([.int x])).length) Slot.unset).toArray = ls at hl ⊢
  have hl : lv_has ls 1 [(0, .int x)] := hl
  refine lv_iload_n hx hb dX0_lowestBitEverywhere_0 rfl (lv_at hl 0 rfl) ?_
  refine lv_iconst (v := nI 1) hx hb dX0_lowestBitEverywhere_1 (by decide) ?_
  refine lv_iand hx hb dX0_lowestBitEverywhere_2 ?_
  refine lv_ineg hx hb dX0_lowestBitEverywhere_3 ?_
  exact W.iret (v := -(x &&& (nI 1))) hx hb hr (fun t ht hW => ⟨_, rfl, rfl, ht⟩) (fun q h => absurd h List.not_mem_nil) dX0_lowestBitEverywhere_4
set_option maxHeartbeats 4000000 in
set_option maxRecDepth 100000 in
theorem c_X0_placesWith (l : Launch) (x y : Int32) : Met l yX0_placesWith wsX0_placesWith ({ frames := 1, cells := 0, slots := 0, locals := 20 }) (va_Pc [.int x, .int y] (fun _ => True)) (vp_Si (fun r9 => r9 = plw x y)) 0 0 (fun _ => False) := by
  refine Met.ofW (cc := cX0_placesWith) (maxL := 2) (ret := (some .int)) (by decide) rfl ?_
  intro p e s m args below meth c s₁ B hml hv
  obtain ⟨rfl, -⟩ := hv
  have hx := B.exec
  have hb := B.bytes
  have hr := B.returns
  have hts := atoms_spec (ws := wsX0_placesWith) B.pre
  have hown : s.vm.findClass RX0 = some m.cls := findClass_of_methodNamed B.named
  have hlocks := B.notSynchronized
  have hl := lv_entry ([.int x, .int y]) (n := 2) (Nat.le_of_ble_eq_true rfl)
  rw [lg_entry_eq]
  generalize (lg_sl ([.int x, .int y]) ++ List.replicate (2 - (lg_sl ([.int x, .int y])).length) Slot.unset).toArray = ls at hl ⊢
  have hl : lv_has ls 2 [(0, .int x), (1, .int y)] := hl
  refine lv_iload_n hx hb dX0_placesWith_0 rfl (lv_at hl 0 rfl) ?_
  refine lv_iload_n hx hb dX0_placesWith_1 rfl (lv_at hl 1 rfl) ?_
  refine wk_Sp (v := lbe y) (As := [.int y]) (rest := [.int x]) ⟨hx, hb, hml, hown, hts⟩ (c_X0_lowestBitEverywhere l y) (va_cwS 1 hts gX0_placesWith_X0_lowestBitEverywhere rfl rfl rfl (by decide +kernel) ⟨Nat.le_of_ble_eq_true rfl, Nat.le_of_ble_eq_true rfl⟩) rfl hl.1 rfl (Nat.le_of_ble_eq_true rfl) dX0_placesWith_2 ⟨Nat.zero_le _, Nat.zero_le _⟩ ?_
  refine lv_ixor hx hb dX0_placesWith_5 ?_
  refine lv_iconst (v := (-1)) hx hb dX0_placesWith_6 (by decide) ?_
  refine lv_ixor hx hb dX0_placesWith_7 ?_
  exact W.iret (v := (x ^^^ (lbe y)) ^^^ ((-1))) hx hb hr (fun t ht hW => ⟨_, rfl, rfl, ht⟩) (fun q h => absurd h List.not_mem_nil) dX0_placesWith_8
set_option maxHeartbeats 4000000 in
set_option maxRecDepth 100000 in
theorem c_X0_roundKeyAt (l : Launch) (r : Nat) : Met l yX0_roundKeyAt wsX0_roundKeyAt ({ frames := 0, cells := 0, slots := 0, locals := 0 }) (va_Pc [.int (nI r)] (fun _ => True)) (vp_Si (fun r9 => r9 = nI (8 + 4 * r))) 0 0 (fun _ => False) := by
  refine Met.ofW (cc := cX0_roundKeyAt) (maxL := 1) (ret := (some .int)) (by decide) rfl ?_
  intro p e s m args below meth c s₁ B hml hv
  obtain ⟨rfl, -⟩ := hv
  have hx := B.exec
  have hb := B.bytes
  have hr := B.returns
  have hts := atoms_spec (ws := wsX0_roundKeyAt) B.pre
  have hown : s.vm.findClass RX0 = some m.cls := findClass_of_methodNamed B.named
  have hlocks := B.notSynchronized
  have hl := lv_entry ([.int (nI r)]) (n := 1) (Nat.le_of_ble_eq_true rfl)
  rw [lg_entry_eq]
  generalize (lg_sl ([.int (nI r)]) ++ List.replicate (1 - (lg_sl ([.int (nI r)])).length) Slot.unset).toArray = ls at hl ⊢
  have hl : lv_has ls 1 [(0, .int (nI r))] := hl
  refine lv_bipush (v := nI 8) hx hb dX0_roundKeyAt_0 (by decide) ?_
  refine lv_iconst (v := nI 4) hx hb dX0_roundKeyAt_2 (by decide) ?_
  refine lv_iload_n hx hb dX0_roundKeyAt_3 rfl (lv_at hl 0 rfl) ?_
  refine wk_imulN hx hb (a := 4) (b := r) dX0_roundKeyAt_4 ?_
  refine wk_iaddN hx hb (a := 8) (b := 4 * r) dX0_roundKeyAt_5 ?_
  exact W.iret (v := nI (8 + (4 * r))) hx hb hr (fun t ht hW => ⟨_, rfl, rfl, ht⟩) (fun q h => absurd h List.not_mem_nil) dX0_roundKeyAt_6
end
section
/-! xorBlock: word by word, into another row or the same -/
def xbF (f : Nat → Int32) (at0 : Nat) (g : Nat → Int32) (fr : Nat) : Nat → Nat → Int32
  | 0 => f
  | i + 1 => upd (xbF f at0 g fr i) (at0 + i) (xbF f at0 g fr i (at0 + i) ^^^ g (fr + i))
def xbS (f : Nat → Int32) (at0 : Nat) (fr : Nat) : Nat → Nat → Int32
  | 0 => f
  | i + 1 => upd (xbS f at0 fr i) (at0 + i) (xbS f at0 fr i (at0 + i) ^^^ xbS f at0 fr i (fr + i))
set_option maxHeartbeats 4000000 in
set_option maxRecDepth 100000 in
theorem c_X0_xorBlock (l : Launch) (D : va_G) (cI : ClassId) (sz : Nat) (w at0 o fr n k : Nat) (f g : Nat → Int32) (h1 : at0 + 4 ≤ n) (h2 : fr + 4 ≤ k) (h3 : n < 2 ^ 31) (h4 : k < 2 ^ 31) : Met l yX0_xorBlock wsX0_xorBlock ({ frames := 0, cells := 0, slots := 0, locals := 0 }) (va_Pc [.ref w, .int (nI at0), .ref o, .int (nI fr)] (fun U => PW D [(cI, .int)] [(w, .inl (cI, n, .inl f)), (o, .inl (cI, k, .inl g))] sz U ∧ True)) (va_Qv (fun _ : Unit => True) (fun _ => BW D [(cI, .int)] (va_A [(w, .inl (cI, n, .inl f)), (o, .inl (cI, k, .inl g))] sz) [(w, .inl (cI, n, .inl (xbF f at0 g fr 4))), (o, .inl (cI, k, .inl g))]) (va_A [(w, .inl (cI, n, .inl f)), (o, .inl (cI, k, .inl g))] sz)) 0 0 (va_A [(w, .inl (cI, n, .inl f)), (o, .inl (cI, k, .inl g))] sz) := by
  refine Met.ofW (cc := cX0_xorBlock) (maxL := 5) (ret := none) (by decide) rfl ?_
  intro p e s m args below meth c s₁ B hml hv
  obtain ⟨rfl, ⟨hsz, hP, hK, hD0⟩, -⟩ := hv
  have hx := B.exec
  have hb := B.bytes
  have hr := B.returns
  have hts := atoms_spec (ws := wsX0_xorBlock) B.pre
  have hown : s.vm.findClass RX0 = some m.cls := findClass_of_methodNamed B.named
  have hlocks := B.notSynchronized
  subst hsz
  have hD := hD0.self (sz := s.heap.size)
  generalize hAe : va_A [(w, .inl (cI, n, .inl f)), (o, .inl (cI, k, .inl g))] s.heap.size = A at hD ⊢
  have hA : ∀ q : Nat, s.heap.size ≤ q → A q := fun q h => by rw [← hAe]; exact Or.inr h
  have hS : va_S A s.heap s.heap [] := va_S.rf
  have hl := lv_entry ([.ref w, .int (nI at0), .ref o, .int (nI fr)]) (n := 5) (Nat.le_of_ble_eq_true rfl)
  rw [lg_entry_eq]
  generalize (lg_sl ([.ref w, .int (nI at0), .ref o, .int (nI fr)]) ++ List.replicate (5 - (lg_sl ([.ref w, .int (nI at0), .ref o, .int (nI fr)])).length) Slot.unset).toArray = ls at hl ⊢
  have hl : lv_has ls 5 [(0, .ref w), (1, .int (nI at0)), (2, .ref o), (3, .int (nI fr))] := hl
  have lp : ∀ (fu : Nat) (i : Nat), i ≤ 4 → 4 + 1 ≤ i + fu → ∀ (H : Heap) (locs : List Loc), va_P D vwCl [(w, .inl (cI, n, .inl (xbF f at0 g fr i))), (o, .inl (cI, k, .inl g))] H → va_D A [(w, .inl (cI, n, .inl (xbF f at0 g fr i))), (o, .inl (cI, k, .inl g))] → va_S A s.heap H locs → ∀ (ls : Array Slot), lv_has ls 5 [(0, .ref w), (1, .int (nI at0)), (2, .ref o), (3, .int (nI fr)), (4, .int (nI i))] → W p l e ((headSpec wsX0_xorBlock ({ frames := 0, cells := 0, slots := 0, locals := 0 })).room) s m ([.ref w, .int (nI at0), .ref o, .int (nI fr)] : List Value).toArray below meth c H locs 0 0 (MQ below (va_Qv (fun _ : Unit => True) (fun _ => BW D [(cI, .int)] A [(w, .inl (cI, n, .inl (xbF f at0 g fr 4))), (o, .inl (cI, k, .inl g))]) A) ([.ref w, .int (nI at0), .ref o, .int (nI fr)] : List Value).toArray s 0 0 (A)) (F0 m 3 ls []) := by
    intro fu
    induction fu with
      | zero => intro i hi hfu; exact absurd hfu (by omega)
      | succ fu ih =>
        intro i hi hfu H locs hP hD hS ls hl
        refine lv_iload hx hb dX0_xorBlock_3 (lv_at hl 4 rfl) ?_
        refine lv_iconst (v := nI 4) hx hb dX0_xorBlock_5 (by decide) ?_
        refine wk_geN (tgt := 30) hx hb (a := i) (b := 4) (by omega) (by decide) dX0_xorBlock_6 (by decide) (fun c6 => ?_) (fun c6 => ?_)
        · obtain rfl : i = 4 := by omega
          exact W.vret hx hb hr (fun t ht hW => ⟨⟨(), rfl, trivial, by rw [ht]; exact hP, va_K.moved hW.alike hK, hD⟩, hS.F ht⟩) hS.2.2 dX0_xorBlock_30
        · refine lv_aload_n hx hb dX0_xorBlock_9 rfl (lv_at hl 0 rfl) ?_
          refine lv_iload_n hx hb dX0_xorBlock_10 rfl (lv_at hl 1 rfl) ?_
          refine lv_iload hx hb dX0_xorBlock_11 (lv_at hl 4 rfl) ?_
          refine wk_iaddN hx hb (a := at0) (b := i) dX0_xorBlock_13 ?_
          refine lv_dup2_11 hx hb dX0_xorBlock_14 rfl rfl ?_
          refine wk_iald hx hb hK hP 0 0 rfl rfl (k := at0 + i) (by omega) (by omega) dX0_xorBlock_15 ?_
          refine lv_aload_n hx hb dX0_xorBlock_16 rfl (lv_at hl 2 rfl) ?_
          refine lv_iload_n hx hb dX0_xorBlock_17 rfl (lv_at hl 3 rfl) ?_
          refine lv_iload hx hb dX0_xorBlock_18 (lv_at hl 4 rfl) ?_
          refine wk_iaddN hx hb (a := fr) (b := i) dX0_xorBlock_20 ?_
          refine wk_iald hx hb hK hP 1 0 rfl rfl (k := fr + i) (by omega) (by omega) dX0_xorBlock_21 ?_
          refine lv_ixor hx hb dX0_xorBlock_22 ?_
          refine wk_iast hx hb hK hP hD hS 0 0 rfl rfl (k := at0 + i) (x := ((xbF f at0 g fr i) (at0 + i)) ^^^ (g (fr + i))) (by omega) (by omega) dX0_xorBlock_23 (fun H locs hP hD hS => ?_)
          have hP : va_P D vwCl [(w, .inl (cI, n, .inl (upd (xbF f at0 g fr i) (at0 + i) (((xbF f at0 g fr i) (at0 + i)) ^^^ (g (fr + i)))))), (o, .inl (cI, k, .inl g))] H := hP
          have hD : va_D A [(w, .inl (cI, n, .inl (upd (xbF f at0 g fr i) (at0 + i) (((xbF f at0 g fr i) (at0 + i)) ^^^ (g (fr + i)))))), (o, .inl (cI, k, .inl g))] := hD
          refine lv_iinc (v := nI (i + 1)) (lv' := [(4, .int (nI (i + 1))), (0, .ref w), (1, .int (nI at0)), (2, .ref o), (3, .int (nI fr))]) hx hb dX0_xorBlock_24 hl (k := 4) rfl (wk_inc i (by decide)) (by decide) rfl (fun ls hl => ?_)
          refine lv_goto (tgt := 3) hx hb dX0_xorBlock_27 (by decide) ?_
          exact ih (i + 1) (by omega) (by omega) _ _ hP hD hS ls (lv_sub hl [1, 2, 3, 4, 0] rfl)
  refine lv_iconst (v := nI 0) hx hb dX0_xorBlock_0 (by decide) ?_
  refine lv_istore (lv' := [(4, .int (nI 0)), (0, .ref w), (1, .int (nI at0)), (2, .ref o), (3, .int (nI fr))]) hx hb dX0_xorBlock_1 hl (by decide) rfl (fun ls hl => ?_)
  exact lp 5 0 (by omega) (by omega) _ _ hP hD hS ls (lv_sub hl [1, 2, 3, 4, 0] rfl)
set_option maxHeartbeats 4000000 in
set_option maxRecDepth 100000 in
theorem c_X0_xorBlockS (l : Launch) (D : va_G) (cI : ClassId) (sz : Nat) (w at0 fr n : Nat) (f : Nat → Int32) (h1 : at0 + 4 ≤ n) (h2 : fr + 4 ≤ n) (h3 : n < 2 ^ 31) : Met l yX0_xorBlock wsX0_xorBlock ({ frames := 0, cells := 0, slots := 0, locals := 0 }) (va_Pc [.ref w, .int (nI at0), .ref w, .int (nI fr)] (fun U => PW D [(cI, .int)] [(w, .inl (cI, n, .inl f))] sz U ∧ True)) (va_Qv (fun _ : Unit => True) (fun _ => BW D [(cI, .int)] (va_A [(w, .inl (cI, n, .inl f))] sz) [(w, .inl (cI, n, .inl (xbS f at0 fr 4)))]) (va_A [(w, .inl (cI, n, .inl f))] sz)) 0 0 (va_A [(w, .inl (cI, n, .inl f))] sz) := by
  refine Met.ofW (cc := cX0_xorBlock) (maxL := 5) (ret := none) (by decide) rfl ?_
  intro p e s m args below meth c s₁ B hml hv
  obtain ⟨rfl, ⟨hsz, hP, hK, hD0⟩, -⟩ := hv
  have hx := B.exec
  have hb := B.bytes
  have hr := B.returns
  have hts := atoms_spec (ws := wsX0_xorBlock) B.pre
  have hown : s.vm.findClass RX0 = some m.cls := findClass_of_methodNamed B.named
  have hlocks := B.notSynchronized
  subst hsz
  have hD := hD0.self (sz := s.heap.size)
  generalize hAe : va_A [(w, .inl (cI, n, .inl f))] s.heap.size = A at hD ⊢
  have hA : ∀ q : Nat, s.heap.size ≤ q → A q := fun q h => by rw [← hAe]; exact Or.inr h
  have hS : va_S A s.heap s.heap [] := va_S.rf
  have hl := lv_entry ([.ref w, .int (nI at0), .ref w, .int (nI fr)]) (n := 5) (Nat.le_of_ble_eq_true rfl)
  rw [lg_entry_eq]
  generalize (lg_sl ([.ref w, .int (nI at0), .ref w, .int (nI fr)]) ++ List.replicate (5 - (lg_sl ([.ref w, .int (nI at0), .ref w, .int (nI fr)])).length) Slot.unset).toArray = ls at hl ⊢
  have hl : lv_has ls 5 [(0, .ref w), (1, .int (nI at0)), (2, .ref w), (3, .int (nI fr))] := hl
  have lp : ∀ (fu : Nat) (i : Nat), i ≤ 4 → 4 + 1 ≤ i + fu → ∀ (H : Heap) (locs : List Loc), va_P D vwCl [(w, .inl (cI, n, .inl (xbS f at0 fr i)))] H → va_D A [(w, .inl (cI, n, .inl (xbS f at0 fr i)))] → va_S A s.heap H locs → ∀ (ls : Array Slot), lv_has ls 5 [(0, .ref w), (1, .int (nI at0)), (2, .ref w), (3, .int (nI fr)), (4, .int (nI i))] → W p l e ((headSpec wsX0_xorBlock ({ frames := 0, cells := 0, slots := 0, locals := 0 })).room) s m ([.ref w, .int (nI at0), .ref w, .int (nI fr)] : List Value).toArray below meth c H locs 0 0 (MQ below (va_Qv (fun _ : Unit => True) (fun _ => BW D [(cI, .int)] A [(w, .inl (cI, n, .inl (xbS f at0 fr 4)))]) A) ([.ref w, .int (nI at0), .ref w, .int (nI fr)] : List Value).toArray s 0 0 (A)) (F0 m 3 ls []) := by
    intro fu
    induction fu with
      | zero => intro i hi hfu; exact absurd hfu (by omega)
      | succ fu ih =>
        intro i hi hfu H locs hP hD hS ls hl
        refine lv_iload hx hb dX0_xorBlock_3 (lv_at hl 4 rfl) ?_
        refine lv_iconst (v := nI 4) hx hb dX0_xorBlock_5 (by decide) ?_
        refine wk_geN (tgt := 30) hx hb (a := i) (b := 4) (by omega) (by decide) dX0_xorBlock_6 (by decide) (fun c6 => ?_) (fun c6 => ?_)
        · obtain rfl : i = 4 := by omega
          exact W.vret hx hb hr (fun t ht hW => ⟨⟨(), rfl, trivial, by rw [ht]; exact hP, va_K.moved hW.alike hK, hD⟩, hS.F ht⟩) hS.2.2 dX0_xorBlock_30
        · refine lv_aload_n hx hb dX0_xorBlock_9 rfl (lv_at hl 0 rfl) ?_
          refine lv_iload_n hx hb dX0_xorBlock_10 rfl (lv_at hl 1 rfl) ?_
          refine lv_iload hx hb dX0_xorBlock_11 (lv_at hl 4 rfl) ?_
          refine wk_iaddN hx hb (a := at0) (b := i) dX0_xorBlock_13 ?_
          refine lv_dup2_11 hx hb dX0_xorBlock_14 rfl rfl ?_
          refine wk_iald hx hb hK hP 0 0 rfl rfl (k := at0 + i) (by omega) (by omega) dX0_xorBlock_15 ?_
          refine lv_aload_n hx hb dX0_xorBlock_16 rfl (lv_at hl 2 rfl) ?_
          refine lv_iload_n hx hb dX0_xorBlock_17 rfl (lv_at hl 3 rfl) ?_
          refine lv_iload hx hb dX0_xorBlock_18 (lv_at hl 4 rfl) ?_
          refine wk_iaddN hx hb (a := fr) (b := i) dX0_xorBlock_20 ?_
          refine wk_iald hx hb hK hP 0 0 rfl rfl (k := fr + i) (by omega) (by omega) dX0_xorBlock_21 ?_
          refine lv_ixor hx hb dX0_xorBlock_22 ?_
          refine wk_iast hx hb hK hP hD hS 0 0 rfl rfl (k := at0 + i) (x := ((xbS f at0 fr i) (at0 + i)) ^^^ ((xbS f at0 fr i) (fr + i))) (by omega) (by omega) dX0_xorBlock_23 (fun H locs hP hD hS => ?_)
          have hP : va_P D vwCl [(w, .inl (cI, n, .inl (upd (xbS f at0 fr i) (at0 + i) (((xbS f at0 fr i) (at0 + i)) ^^^ ((xbS f at0 fr i) (fr + i))))))] H := hP
          have hD : va_D A [(w, .inl (cI, n, .inl (upd (xbS f at0 fr i) (at0 + i) (((xbS f at0 fr i) (at0 + i)) ^^^ ((xbS f at0 fr i) (fr + i))))))] := hD
          refine lv_iinc (v := nI (i + 1)) (lv' := [(4, .int (nI (i + 1))), (0, .ref w), (1, .int (nI at0)), (2, .ref w), (3, .int (nI fr))]) hx hb dX0_xorBlock_24 hl (k := 4) rfl (wk_inc i (by decide)) (by decide) rfl (fun ls hl => ?_)
          refine lv_goto (tgt := 3) hx hb dX0_xorBlock_27 (by decide) ?_
          exact ih (i + 1) (by omega) (by omega) _ _ hP hD hS ls (lv_sub hl [1, 2, 3, 4, 0] rfl)
  refine lv_iconst (v := nI 0) hx hb dX0_xorBlock_0 (by decide) ?_
  refine lv_istore (lv' := [(4, .int (nI 0)), (0, .ref w), (1, .int (nI at0)), (2, .ref w), (3, .int (nI fr))]) hx hb dX0_xorBlock_1 hl (by decide) rfl (fun ls hl => ?_)
  exact lp 5 0 (by omega) (by omega) _ _ hP hD hS ls (lv_sub hl [1, 2, 3, 4, 0] rfl)
end
section
/-! blocks of four words in a row; the class's functions on them -/
abbrev Qd : Type := Int32 × Int32 × Int32 × Int32
def ld4 (f : Nat → Int32) (a : Nat) : Qd := (f a, f (a + 1), f (a + 2), f (a + 3))
def st4 (f : Nat → Int32) (a : Nat) (x : Qd) : Nat → Int32 := upd (upd (upd (upd f a x.1) (a + 1) x.2.1) (a + 2) x.2.2.1) (a + 3) x.2.2.2
def x4 (x k : Qd) : Qd := (x.1 ^^^ k.1, x.2.1 ^^^ k.2.1, x.2.2.1 ^^^ k.2.2.1, x.2.2.2 ^^^ k.2.2.2)
theorem ld4_st4 (f : Nat → Int32) (a : Nat) (x : Qd) : ld4 (st4 f a x) a = x := by simp [ld4, st4, upd]
theorem st4_st4 (f : Nat → Int32) (a : Nat) (x y : Qd) : st4 (st4 f a x) a y = st4 f a y := by
  funext j
  by_cases h3 : j = a + 3 <;> by_cases h2 : j = a + 2 <;> by_cases h1 : j = a + 1 <;> by_cases h0 : j = a <;> simp [st4, upd, *]
theorem st4_ld4 (f : Nat → Int32) (a : Nat) : st4 f a (ld4 f a) = f := by
  funext j
  by_cases h3 : j = a + 3 <;> by_cases h2 : j = a + 2 <;> by_cases h1 : j = a + 1 <;> by_cases h0 : j = a <;> simp [st4, ld4, upd, *]
theorem xb_eq (f : Nat → Int32) (a : Nat) (g : Nat → Int32) (b : Nat) : xbF f a g b 4 = st4 f a (x4 (ld4 f a) (ld4 g b)) := by
  funext j
  simp [xbF, st4, upd, x4, ld4]
/-- the number a box meets, what it becomes, in the class's loop: forth (0), back (1) -/
def pbFrom : Nat → Nat → Nat → Int32
  | 0, _, i => nI i
  | _ + 1, wh, i => TB (wh * 16 + i)
def pbTo : Nat → Nat → Nat → Int32
  | 0, wh, i => TB (wh * 16 + i)
  | _ + 1, _, i => nI i
def pbPl (bk wh : Nat) (x : Qd) (i : Nat) : Int32 := ((plw x.1 (pbFrom bk wh i) &&& plw x.2.1 (pbFrom bk wh i >>> (nI 1 &&& 31))) &&& plw x.2.2.1 (pbFrom bk wh i >>> (nI 2 &&& 31))) &&& plw x.2.2.2 (pbFrom bk wh i >>> (nI 3 &&& 31))
def pbN (bk wh : Nat) (x : Qd) : Nat → Qd
  | 0 => (nI 0, nI 0, nI 0, nI 0)
  | i + 1 => ((pbN bk wh x i).1 ||| (pbPl bk wh x i &&& lbe (pbTo bk wh i)), (pbN bk wh x i).2.1 ||| (pbPl bk wh x i &&& lbe (pbTo bk wh i >>> (nI 1 &&& 31))), (pbN bk wh x i).2.2.1 ||| (pbPl bk wh x i &&& lbe (pbTo bk wh i >>> (nI 2 &&& 31))), (pbN bk wh x i).2.2.2 ||| (pbPl bk wh x i &&& lbe (pbTo bk wh i >>> (nI 3 &&& 31))))
def cBox (bk wh : Nat) (x : Qd) : Qd := pbN bk wh x 16
def cMix (x : Qd) : Qd :=
  let a := rotL x.1 (nI 13)
  let c := rotL x.2.2.1 (nI 3)
  let b := rotL ((x.2.1 ^^^ a) ^^^ c) (nI 1)
  let d := rotL ((x.2.2.2 ^^^ c) ^^^ (a <<< (nI 3 &&& 31))) (nI 7)
  (rotL ((a ^^^ b) ^^^ d) (nI 5), b, rotL ((c ^^^ d) ^^^ (b <<< (nI 7 &&& 31))) (nI 22), d)
def cUnmix (x : Qd) : Qd :=
  let b := x.2.1
  let d := x.2.2.2
  let c := (rotR x.2.2.1 (nI 22) ^^^ d) ^^^ (b <<< (nI 7 &&& 31))
  let a := (rotR x.1 (nI 5) ^^^ b) ^^^ d
  (rotR a (nI 13), (rotR b (nI 1) ^^^ a) ^^^ c, rotR c (nI 3), (rotR d (nI 7) ^^^ c) ^^^ (a <<< (nI 3 &&& 31)))
set_option maxHeartbeats 4000000 in
set_option maxRecDepth 100000 in
theorem c_X0_mix (l : Launch) (D : va_G) (cI : ClassId) (sz : Nat) (w at0 n : Nat) (f : Nat → Int32) (h1 : at0 + 4 ≤ n) (h3 : n < 2 ^ 31) : Met l yX0_mix wsX0_mix ({ frames := 1, cells := 0, slots := 0, locals := 21 }) (va_Pc [.ref w, .int (nI at0)] (fun U => PW D [(cI, .int)] [(w, .inl (cI, n, .inl f))] sz U ∧ True)) (va_Qv (fun _ : Unit => True) (fun _ => BW D [(cI, .int)] (va_A [(w, .inl (cI, n, .inl f))] sz) [(w, .inl (cI, n, .inl (st4 f at0 (cMix (ld4 f at0)))))]) (va_A [(w, .inl (cI, n, .inl f))] sz)) 0 0 (va_A [(w, .inl (cI, n, .inl f))] sz) := by
  refine Met.ofW (cc := cX0_mix) (maxL := 6) (ret := none) (by decide) rfl ?_
  intro p e s m args below meth c s₁ B hml hv
  obtain ⟨rfl, ⟨hsz, hP, hK, hD0⟩, -⟩ := hv
  have hx := B.exec
  have hb := B.bytes
  have hr := B.returns
  have hts := atoms_spec (ws := wsX0_mix) B.pre
  have hown : s.vm.findClass RX0 = some m.cls := findClass_of_methodNamed B.named
  have hlocks := B.notSynchronized
  subst hsz
  have hD := hD0.self (sz := s.heap.size)
  generalize hAe : va_A [(w, .inl (cI, n, .inl f))] s.heap.size = A at hD ⊢
  have hA : ∀ q : Nat, s.heap.size ≤ q → A q := fun q h => by rw [← hAe]; exact Or.inr h
  have hS : va_S A s.heap s.heap [] := va_S.rf
  have hl := lv_entry ([.ref w, .int (nI at0)]) (n := 6) (Nat.le_of_ble_eq_true rfl)
  rw [lg_entry_eq]
  generalize (lg_sl ([.ref w, .int (nI at0)]) ++ List.replicate (6 - (lg_sl ([.ref w, .int (nI at0)])).length) Slot.unset).toArray = ls at hl ⊢
  have hl : lv_has ls 6 [(0, .ref w), (1, .int (nI at0))] := hl
  refine lv_aload_n hx hb dX0_mix_0 rfl (lv_at hl 0 rfl) ?_
  refine lv_iload_n hx hb dX0_mix_1 rfl (lv_at hl 1 rfl) ?_
  refine wk_iald hx hb hK hP 0 0 rfl rfl (k := at0) (by omega) (by omega) dX0_mix_2 ?_
  refine lv_bipush (v := nI 13) hx hb dX0_mix_3 (by decide) ?_
  refine wk_Sp (v := rotL (f at0) (nI 13)) (As := [.int (f at0), .int (nI 13)]) (rest := []) ⟨hx, hb, hml, hown, hts⟩ (c_J6_rotateLeft l (f at0) (nI 13)) (va_cwS 2 hts gX0_mix_J6_rotateLeft_7cf53 rfl rfl rfl (by decide +kernel) ⟨Nat.le_of_ble_eq_true rfl, Nat.le_of_ble_eq_true rfl⟩) rfl hl.1 rfl (Nat.le_of_ble_eq_true rfl) dX0_mix_5 ⟨Nat.zero_le _, Nat.zero_le _⟩ ?_
  refine lv_istore_n (lv' := [(2, .int (rotL (f at0) (nI 13))), (0, .ref w), (1, .int (nI at0))]) hx hb dX0_mix_8 rfl hl (by decide) rfl (fun ls hl => ?_)
  refine lv_aload_n hx hb dX0_mix_9 rfl (lv_at hl 1 rfl) ?_
  refine lv_iload_n hx hb dX0_mix_10 rfl (lv_at hl 2 rfl) ?_
  refine lv_iconst (v := nI 2) hx hb dX0_mix_11 (by decide) ?_
  refine wk_iaddN hx hb (a := at0) (b := 2) dX0_mix_12 ?_
  refine wk_iald hx hb hK hP 0 0 rfl rfl (k := at0 + 2) (by omega) (by omega) dX0_mix_13 ?_
  refine lv_iconst (v := nI 3) hx hb dX0_mix_14 (by decide) ?_
  refine wk_Sp (v := rotL (f (at0 + 2)) (nI 3)) (As := [.int (f (at0 + 2)), .int (nI 3)]) (rest := []) ⟨hx, hb, hml, hown, hts⟩ (c_J6_rotateLeft l (f (at0 + 2)) (nI 3)) (va_cwS 2 hts gX0_mix_J6_rotateLeft_7cf53 rfl rfl rfl (by decide +kernel) ⟨Nat.le_of_ble_eq_true rfl, Nat.le_of_ble_eq_true rfl⟩) rfl hl.1 rfl (Nat.le_of_ble_eq_true rfl) dX0_mix_15 ⟨Nat.zero_le _, Nat.zero_le _⟩ ?_
  refine lv_istore_n (lv' := [(3, .int (rotL (f (at0 + 2)) (nI 3))), (2, .int (rotL (f at0) (nI 13))), (0, .ref w), (1, .int (nI at0))]) hx hb dX0_mix_18 rfl hl (by decide) rfl (fun ls hl => ?_)
  refine lv_aload_n hx hb dX0_mix_19 rfl (lv_at hl 2 rfl) ?_
  refine lv_iload_n hx hb dX0_mix_20 rfl (lv_at hl 3 rfl) ?_
  refine lv_iconst (v := nI 1) hx hb dX0_mix_21 (by decide) ?_
  refine wk_iaddN hx hb (a := at0) (b := 1) dX0_mix_22 ?_
  refine wk_iald hx hb hK hP 0 0 rfl rfl (k := at0 + 1) (by omega) (by omega) dX0_mix_23 ?_
  refine lv_iload_n hx hb dX0_mix_24 rfl (lv_at hl 1 rfl) ?_
  refine lv_ixor hx hb dX0_mix_25 ?_
  refine lv_iload_n hx hb dX0_mix_26 rfl (lv_at hl 0 rfl) ?_
  refine lv_ixor hx hb dX0_mix_27 ?_
  refine lv_iconst (v := nI 1) hx hb dX0_mix_28 (by decide) ?_
  refine wk_Sp (v := rotL (((f (at0 + 1)) ^^^ (rotL (f at0) (nI 13))) ^^^ (rotL (f (at0 + 2)) (nI 3))) (nI 1)) (As := [.int (((f (at0 + 1)) ^^^ (rotL (f at0) (nI 13))) ^^^ (rotL (f (at0 + 2)) (nI 3))), .int (nI 1)]) (rest := []) ⟨hx, hb, hml, hown, hts⟩ (c_J6_rotateLeft l (((f (at0 + 1)) ^^^ (rotL (f at0) (nI 13))) ^^^ (rotL (f (at0 + 2)) (nI 3))) (nI 1)) (va_cwS 2 hts gX0_mix_J6_rotateLeft_7cf53 rfl rfl rfl (by decide +kernel) ⟨Nat.le_of_ble_eq_true rfl, Nat.le_of_ble_eq_true rfl⟩) rfl hl.1 rfl (Nat.le_of_ble_eq_true rfl) dX0_mix_29 ⟨Nat.zero_le _, Nat.zero_le _⟩ ?_
  refine lv_istore (lv' := [(4, .int (rotL (((f (at0 + 1)) ^^^ (rotL (f at0) (nI 13))) ^^^ (rotL (f (at0 + 2)) (nI 3))) (nI 1))), (3, .int (rotL (f (at0 + 2)) (nI 3))), (2, .int (rotL (f at0) (nI 13))), (0, .ref w), (1, .int (nI at0))]) hx hb dX0_mix_32 hl (by decide) rfl (fun ls hl => ?_)
  refine lv_aload_n hx hb dX0_mix_34 rfl (lv_at hl 3 rfl) ?_
  refine lv_iload_n hx hb dX0_mix_35 rfl (lv_at hl 4 rfl) ?_
  refine lv_iconst (v := nI 3) hx hb dX0_mix_36 (by decide) ?_
  refine wk_iaddN hx hb (a := at0) (b := 3) dX0_mix_37 ?_
  refine wk_iald hx hb hK hP 0 0 rfl rfl (k := at0 + 3) (by omega) (by omega) dX0_mix_38 ?_
  refine lv_iload_n hx hb dX0_mix_39 rfl (lv_at hl 1 rfl) ?_
  refine lv_ixor hx hb dX0_mix_40 ?_
  refine lv_iload_n hx hb dX0_mix_41 rfl (lv_at hl 2 rfl) ?_
  refine lv_iconst (v := nI 3) hx hb dX0_mix_42 (by decide) ?_
  refine lv_ishl hx hb dX0_mix_43 ?_
  refine lv_ixor hx hb dX0_mix_44 ?_
  refine lv_bipush (v := nI 7) hx hb dX0_mix_45 (by decide) ?_
  refine wk_Sp (v := rotL (((f (at0 + 3)) ^^^ (rotL (f (at0 + 2)) (nI 3))) ^^^ ((rotL (f at0) (nI 13)) <<< ((nI 3) &&& 31))) (nI 7)) (As := [.int (((f (at0 + 3)) ^^^ (rotL (f (at0 + 2)) (nI 3))) ^^^ ((rotL (f at0) (nI 13)) <<< ((nI 3) &&& 31))), .int (nI 7)]) (rest := []) ⟨hx, hb, hml, hown, hts⟩ (c_J6_rotateLeft l (((f (at0 + 3)) ^^^ (rotL (f (at0 + 2)) (nI 3))) ^^^ ((rotL (f at0) (nI 13)) <<< ((nI 3) &&& 31))) (nI 7)) (va_cwS 2 hts gX0_mix_J6_rotateLeft_7cf53 rfl rfl rfl (by decide +kernel) ⟨Nat.le_of_ble_eq_true rfl, Nat.le_of_ble_eq_true rfl⟩) rfl hl.1 rfl (Nat.le_of_ble_eq_true rfl) dX0_mix_47 ⟨Nat.zero_le _, Nat.zero_le _⟩ ?_
  refine lv_istore (lv' := [(5, .int (rotL (((f (at0 + 3)) ^^^ (rotL (f (at0 + 2)) (nI 3))) ^^^ ((rotL (f at0) (nI 13)) <<< ((nI 3) &&& 31))) (nI 7))), (4, .int (rotL (((f (at0 + 1)) ^^^ (rotL (f at0) (nI 13))) ^^^ (rotL (f (at0 + 2)) (nI 3))) (nI 1))), (3, .int (rotL (f (at0 + 2)) (nI 3))), (2, .int (rotL (f at0) (nI 13))), (0, .ref w), (1, .int (nI at0))]) hx hb dX0_mix_50 hl (by decide) rfl (fun ls hl => ?_)
  refine lv_iload_n hx hb dX0_mix_52 rfl (lv_at hl 3 rfl) ?_
  refine lv_iload hx hb dX0_mix_53 (lv_at hl 1 rfl) ?_
  refine lv_ixor hx hb dX0_mix_55 ?_
  refine lv_iload hx hb dX0_mix_56 (lv_at hl 0 rfl) ?_
  refine lv_ixor hx hb dX0_mix_58 ?_
  refine lv_istore_n (lv' := [(2, .int (((rotL (f at0) (nI 13)) ^^^ (rotL (((f (at0 + 1)) ^^^ (rotL (f at0) (nI 13))) ^^^ (rotL (f (at0 + 2)) (nI 3))) (nI 1))) ^^^ (rotL (((f (at0 + 3)) ^^^ (rotL (f (at0 + 2)) (nI 3))) ^^^ ((rotL (f at0) (nI 13)) <<< ((nI 3) &&& 31))) (nI 7)))), (5, .int (rotL (((f (at0 + 3)) ^^^ (rotL (f (at0 + 2)) (nI 3))) ^^^ ((rotL (f at0) (nI 13)) <<< ((nI 3) &&& 31))) (nI 7))), (4, .int (rotL (((f (at0 + 1)) ^^^ (rotL (f at0) (nI 13))) ^^^ (rotL (f (at0 + 2)) (nI 3))) (nI 1))), (3, .int (rotL (f (at0 + 2)) (nI 3))), (0, .ref w), (1, .int (nI at0))]) hx hb dX0_mix_59 rfl hl (by decide) rfl (fun ls hl => ?_)
  refine lv_iload_n hx hb dX0_mix_60 rfl (lv_at hl 3 rfl) ?_
  refine lv_iload hx hb dX0_mix_61 (lv_at hl 1 rfl) ?_
  refine lv_ixor hx hb dX0_mix_63 ?_
  refine lv_iload hx hb dX0_mix_64 (lv_at hl 2 rfl) ?_
  refine lv_bipush (v := nI 7) hx hb dX0_mix_66 (by decide) ?_
  refine lv_ishl hx hb dX0_mix_68 ?_
  refine lv_ixor hx hb dX0_mix_69 ?_
  refine lv_istore_n (lv' := [(3, .int (((rotL (f (at0 + 2)) (nI 3)) ^^^ (rotL (((f (at0 + 3)) ^^^ (rotL (f (at0 + 2)) (nI 3))) ^^^ ((rotL (f at0) (nI 13)) <<< ((nI 3) &&& 31))) (nI 7))) ^^^ ((rotL (((f (at0 + 1)) ^^^ (rotL (f at0) (nI 13))) ^^^ (rotL (f (at0 + 2)) (nI 3))) (nI 1)) <<< ((nI 7) &&& 31)))), (2, .int (((rotL (f at0) (nI 13)) ^^^ (rotL (((f (at0 + 1)) ^^^ (rotL (f at0) (nI 13))) ^^^ (rotL (f (at0 + 2)) (nI 3))) (nI 1))) ^^^ (rotL (((f (at0 + 3)) ^^^ (rotL (f (at0 + 2)) (nI 3))) ^^^ ((rotL (f at0) (nI 13)) <<< ((nI 3) &&& 31))) (nI 7)))), (5, .int (rotL (((f (at0 + 3)) ^^^ (rotL (f (at0 + 2)) (nI 3))) ^^^ ((rotL (f at0) (nI 13)) <<< ((nI 3) &&& 31))) (nI 7))), (4, .int (rotL (((f (at0 + 1)) ^^^ (rotL (f at0) (nI 13))) ^^^ (rotL (f (at0 + 2)) (nI 3))) (nI 1))), (0, .ref w), (1, .int (nI at0))]) hx hb dX0_mix_70 rfl hl (by decide) rfl (fun ls hl => ?_)
  refine lv_aload_n hx hb dX0_mix_71 rfl (lv_at hl 4 rfl) ?_
  refine lv_iload_n hx hb dX0_mix_72 rfl (lv_at hl 5 rfl) ?_
  refine lv_iload_n hx hb dX0_mix_73 rfl (lv_at hl 1 rfl) ?_
  refine lv_iconst (v := nI 5) hx hb dX0_mix_74 (by decide) ?_
  refine wk_Sp (v := rotL (((rotL (f at0) (nI 13)) ^^^ (rotL (((f (at0 + 1)) ^^^ (rotL (f at0) (nI 13))) ^^^ (rotL (f (at0 + 2)) (nI 3))) (nI 1))) ^^^ (rotL (((f (at0 + 3)) ^^^ (rotL (f (at0 + 2)) (nI 3))) ^^^ ((rotL (f at0) (nI 13)) <<< ((nI 3) &&& 31))) (nI 7))) (nI 5)) (As := [.int (((rotL (f at0) (nI 13)) ^^^ (rotL (((f (at0 + 1)) ^^^ (rotL (f at0) (nI 13))) ^^^ (rotL (f (at0 + 2)) (nI 3))) (nI 1))) ^^^ (rotL (((f (at0 + 3)) ^^^ (rotL (f (at0 + 2)) (nI 3))) ^^^ ((rotL (f at0) (nI 13)) <<< ((nI 3) &&& 31))) (nI 7))), .int (nI 5)]) (rest := [.int (nI at0), .ref w]) ⟨hx, hb, hml, hown, hts⟩ (c_J6_rotateLeft l (((rotL (f at0) (nI 13)) ^^^ (rotL (((f (at0 + 1)) ^^^ (rotL (f at0) (nI 13))) ^^^ (rotL (f (at0 + 2)) (nI 3))) (nI 1))) ^^^ (rotL (((f (at0 + 3)) ^^^ (rotL (f (at0 + 2)) (nI 3))) ^^^ ((rotL (f at0) (nI 13)) <<< ((nI 3) &&& 31))) (nI 7))) (nI 5)) (va_cwS 2 hts gX0_mix_J6_rotateLeft_7cf53 rfl rfl rfl (by decide +kernel) ⟨Nat.le_of_ble_eq_true rfl, Nat.le_of_ble_eq_true rfl⟩) rfl hl.1 rfl (Nat.le_of_ble_eq_true rfl) dX0_mix_75 ⟨Nat.zero_le _, Nat.zero_le _⟩ ?_
  refine wk_iast hx hb hK hP hD hS 0 0 rfl rfl (k := at0) (x := rotL (((rotL (f at0) (nI 13)) ^^^ (rotL (((f (at0 + 1)) ^^^ (rotL (f at0) (nI 13))) ^^^ (rotL (f (at0 + 2)) (nI 3))) (nI 1))) ^^^ (rotL (((f (at0 + 3)) ^^^ (rotL (f (at0 + 2)) (nI 3))) ^^^ ((rotL (f at0) (nI 13)) <<< ((nI 3) &&& 31))) (nI 7))) (nI 5)) (by omega) (by omega) dX0_mix_78 (fun H locs hP hD hS => ?_)
  have hP : va_P D vwCl [(w, .inl (cI, n, .inl (upd f at0 (rotL (((rotL (f at0) (nI 13)) ^^^ (rotL (((f (at0 + 1)) ^^^ (rotL (f at0) (nI 13))) ^^^ (rotL (f (at0 + 2)) (nI 3))) (nI 1))) ^^^ (rotL (((f (at0 + 3)) ^^^ (rotL (f (at0 + 2)) (nI 3))) ^^^ ((rotL (f at0) (nI 13)) <<< ((nI 3) &&& 31))) (nI 7))) (nI 5)))))] H := hP
  have hD : va_D A [(w, .inl (cI, n, .inl (upd f at0 (rotL (((rotL (f at0) (nI 13)) ^^^ (rotL (((f (at0 + 1)) ^^^ (rotL (f at0) (nI 13))) ^^^ (rotL (f (at0 + 2)) (nI 3))) (nI 1))) ^^^ (rotL (((f (at0 + 3)) ^^^ (rotL (f (at0 + 2)) (nI 3))) ^^^ ((rotL (f at0) (nI 13)) <<< ((nI 3) &&& 31))) (nI 7))) (nI 5)))))] := hD
  refine lv_aload_n hx hb dX0_mix_79 rfl (lv_at hl 4 rfl) ?_
  refine lv_iload_n hx hb dX0_mix_80 rfl (lv_at hl 5 rfl) ?_
  refine lv_iconst (v := nI 1) hx hb dX0_mix_81 (by decide) ?_
  refine wk_iaddN hx hb (a := at0) (b := 1) dX0_mix_82 ?_
  refine lv_iload hx hb dX0_mix_83 (lv_at hl 3 rfl) ?_
  refine wk_iast hx hb hK hP hD hS 0 0 rfl rfl (k := at0 + 1) (x := rotL (((f (at0 + 1)) ^^^ (rotL (f at0) (nI 13))) ^^^ (rotL (f (at0 + 2)) (nI 3))) (nI 1)) (by omega) (by omega) dX0_mix_85 (fun H locs hP hD hS => ?_)
  have hP : va_P D vwCl [(w, .inl (cI, n, .inl (upd (upd f at0 (rotL (((rotL (f at0) (nI 13)) ^^^ (rotL (((f (at0 + 1)) ^^^ (rotL (f at0) (nI 13))) ^^^ (rotL (f (at0 + 2)) (nI 3))) (nI 1))) ^^^ (rotL (((f (at0 + 3)) ^^^ (rotL (f (at0 + 2)) (nI 3))) ^^^ ((rotL (f at0) (nI 13)) <<< ((nI 3) &&& 31))) (nI 7))) (nI 5))) (at0 + 1) (rotL (((f (at0 + 1)) ^^^ (rotL (f at0) (nI 13))) ^^^ (rotL (f (at0 + 2)) (nI 3))) (nI 1)))))] H := hP
  have hD : va_D A [(w, .inl (cI, n, .inl (upd (upd f at0 (rotL (((rotL (f at0) (nI 13)) ^^^ (rotL (((f (at0 + 1)) ^^^ (rotL (f at0) (nI 13))) ^^^ (rotL (f (at0 + 2)) (nI 3))) (nI 1))) ^^^ (rotL (((f (at0 + 3)) ^^^ (rotL (f (at0 + 2)) (nI 3))) ^^^ ((rotL (f at0) (nI 13)) <<< ((nI 3) &&& 31))) (nI 7))) (nI 5))) (at0 + 1) (rotL (((f (at0 + 1)) ^^^ (rotL (f at0) (nI 13))) ^^^ (rotL (f (at0 + 2)) (nI 3))) (nI 1)))))] := hD
  refine lv_aload_n hx hb dX0_mix_86 rfl (lv_at hl 4 rfl) ?_
  refine lv_iload_n hx hb dX0_mix_87 rfl (lv_at hl 5 rfl) ?_
  refine lv_iconst (v := nI 2) hx hb dX0_mix_88 (by decide) ?_
  refine wk_iaddN hx hb (a := at0) (b := 2) dX0_mix_89 ?_
  refine lv_iload_n hx hb dX0_mix_90 rfl (lv_at hl 0 rfl) ?_
  refine lv_bipush (v := nI 22) hx hb dX0_mix_91 (by decide) ?_
  refine wk_Sp (v := rotL (((rotL (f (at0 + 2)) (nI 3)) ^^^ (rotL (((f (at0 + 3)) ^^^ (rotL (f (at0 + 2)) (nI 3))) ^^^ ((rotL (f at0) (nI 13)) <<< ((nI 3) &&& 31))) (nI 7))) ^^^ ((rotL (((f (at0 + 1)) ^^^ (rotL (f at0) (nI 13))) ^^^ (rotL (f (at0 + 2)) (nI 3))) (nI 1)) <<< ((nI 7) &&& 31))) (nI 22)) (As := [.int (((rotL (f (at0 + 2)) (nI 3)) ^^^ (rotL (((f (at0 + 3)) ^^^ (rotL (f (at0 + 2)) (nI 3))) ^^^ ((rotL (f at0) (nI 13)) <<< ((nI 3) &&& 31))) (nI 7))) ^^^ ((rotL (((f (at0 + 1)) ^^^ (rotL (f at0) (nI 13))) ^^^ (rotL (f (at0 + 2)) (nI 3))) (nI 1)) <<< ((nI 7) &&& 31))), .int (nI 22)]) (rest := [.int (nI (at0 + 2)), .ref w]) ⟨hx, hb, hml, hown, hts⟩ (c_J6_rotateLeft l (((rotL (f (at0 + 2)) (nI 3)) ^^^ (rotL (((f (at0 + 3)) ^^^ (rotL (f (at0 + 2)) (nI 3))) ^^^ ((rotL (f at0) (nI 13)) <<< ((nI 3) &&& 31))) (nI 7))) ^^^ ((rotL (((f (at0 + 1)) ^^^ (rotL (f at0) (nI 13))) ^^^ (rotL (f (at0 + 2)) (nI 3))) (nI 1)) <<< ((nI 7) &&& 31))) (nI 22)) (va_cwS 2 hts gX0_mix_J6_rotateLeft_7cf53 rfl rfl rfl (by decide +kernel) ⟨Nat.le_of_ble_eq_true rfl, Nat.le_of_ble_eq_true rfl⟩) rfl hl.1 rfl (Nat.le_of_ble_eq_true rfl) dX0_mix_93 ⟨Nat.zero_le _, Nat.zero_le _⟩ ?_
  refine wk_iast hx hb hK hP hD hS 0 0 rfl rfl (k := at0 + 2) (x := rotL (((rotL (f (at0 + 2)) (nI 3)) ^^^ (rotL (((f (at0 + 3)) ^^^ (rotL (f (at0 + 2)) (nI 3))) ^^^ ((rotL (f at0) (nI 13)) <<< ((nI 3) &&& 31))) (nI 7))) ^^^ ((rotL (((f (at0 + 1)) ^^^ (rotL (f at0) (nI 13))) ^^^ (rotL (f (at0 + 2)) (nI 3))) (nI 1)) <<< ((nI 7) &&& 31))) (nI 22)) (by omega) (by omega) dX0_mix_96 (fun H locs hP hD hS => ?_)
  have hP : va_P D vwCl [(w, .inl (cI, n, .inl (upd (upd (upd f at0 (rotL (((rotL (f at0) (nI 13)) ^^^ (rotL (((f (at0 + 1)) ^^^ (rotL (f at0) (nI 13))) ^^^ (rotL (f (at0 + 2)) (nI 3))) (nI 1))) ^^^ (rotL (((f (at0 + 3)) ^^^ (rotL (f (at0 + 2)) (nI 3))) ^^^ ((rotL (f at0) (nI 13)) <<< ((nI 3) &&& 31))) (nI 7))) (nI 5))) (at0 + 1) (rotL (((f (at0 + 1)) ^^^ (rotL (f at0) (nI 13))) ^^^ (rotL (f (at0 + 2)) (nI 3))) (nI 1))) (at0 + 2) (rotL (((rotL (f (at0 + 2)) (nI 3)) ^^^ (rotL (((f (at0 + 3)) ^^^ (rotL (f (at0 + 2)) (nI 3))) ^^^ ((rotL (f at0) (nI 13)) <<< ((nI 3) &&& 31))) (nI 7))) ^^^ ((rotL (((f (at0 + 1)) ^^^ (rotL (f at0) (nI 13))) ^^^ (rotL (f (at0 + 2)) (nI 3))) (nI 1)) <<< ((nI 7) &&& 31))) (nI 22)))))] H := hP
  have hD : va_D A [(w, .inl (cI, n, .inl (upd (upd (upd f at0 (rotL (((rotL (f at0) (nI 13)) ^^^ (rotL (((f (at0 + 1)) ^^^ (rotL (f at0) (nI 13))) ^^^ (rotL (f (at0 + 2)) (nI 3))) (nI 1))) ^^^ (rotL (((f (at0 + 3)) ^^^ (rotL (f (at0 + 2)) (nI 3))) ^^^ ((rotL (f at0) (nI 13)) <<< ((nI 3) &&& 31))) (nI 7))) (nI 5))) (at0 + 1) (rotL (((f (at0 + 1)) ^^^ (rotL (f at0) (nI 13))) ^^^ (rotL (f (at0 + 2)) (nI 3))) (nI 1))) (at0 + 2) (rotL (((rotL (f (at0 + 2)) (nI 3)) ^^^ (rotL (((f (at0 + 3)) ^^^ (rotL (f (at0 + 2)) (nI 3))) ^^^ ((rotL (f at0) (nI 13)) <<< ((nI 3) &&& 31))) (nI 7))) ^^^ ((rotL (((f (at0 + 1)) ^^^ (rotL (f at0) (nI 13))) ^^^ (rotL (f (at0 + 2)) (nI 3))) (nI 1)) <<< ((nI 7) &&& 31))) (nI 22)))))] := hD
  refine lv_aload_n hx hb dX0_mix_97 rfl (lv_at hl 4 rfl) ?_
  refine lv_iload_n hx hb dX0_mix_98 rfl (lv_at hl 5 rfl) ?_
  refine lv_iconst (v := nI 3) hx hb dX0_mix_99 (by decide) ?_
  refine wk_iaddN hx hb (a := at0) (b := 3) dX0_mix_100 ?_
  refine lv_iload hx hb dX0_mix_101 (lv_at hl 2 rfl) ?_
  refine wk_iast hx hb hK hP hD hS 0 0 rfl rfl (k := at0 + 3) (x := rotL (((f (at0 + 3)) ^^^ (rotL (f (at0 + 2)) (nI 3))) ^^^ ((rotL (f at0) (nI 13)) <<< ((nI 3) &&& 31))) (nI 7)) (by omega) (by omega) dX0_mix_103 (fun H locs hP hD hS => ?_)
  have hP : va_P D vwCl [(w, .inl (cI, n, .inl (upd (upd (upd (upd f at0 (rotL (((rotL (f at0) (nI 13)) ^^^ (rotL (((f (at0 + 1)) ^^^ (rotL (f at0) (nI 13))) ^^^ (rotL (f (at0 + 2)) (nI 3))) (nI 1))) ^^^ (rotL (((f (at0 + 3)) ^^^ (rotL (f (at0 + 2)) (nI 3))) ^^^ ((rotL (f at0) (nI 13)) <<< ((nI 3) &&& 31))) (nI 7))) (nI 5))) (at0 + 1) (rotL (((f (at0 + 1)) ^^^ (rotL (f at0) (nI 13))) ^^^ (rotL (f (at0 + 2)) (nI 3))) (nI 1))) (at0 + 2) (rotL (((rotL (f (at0 + 2)) (nI 3)) ^^^ (rotL (((f (at0 + 3)) ^^^ (rotL (f (at0 + 2)) (nI 3))) ^^^ ((rotL (f at0) (nI 13)) <<< ((nI 3) &&& 31))) (nI 7))) ^^^ ((rotL (((f (at0 + 1)) ^^^ (rotL (f at0) (nI 13))) ^^^ (rotL (f (at0 + 2)) (nI 3))) (nI 1)) <<< ((nI 7) &&& 31))) (nI 22))) (at0 + 3) (rotL (((f (at0 + 3)) ^^^ (rotL (f (at0 + 2)) (nI 3))) ^^^ ((rotL (f at0) (nI 13)) <<< ((nI 3) &&& 31))) (nI 7)))))] H := hP
  have hD : va_D A [(w, .inl (cI, n, .inl (upd (upd (upd (upd f at0 (rotL (((rotL (f at0) (nI 13)) ^^^ (rotL (((f (at0 + 1)) ^^^ (rotL (f at0) (nI 13))) ^^^ (rotL (f (at0 + 2)) (nI 3))) (nI 1))) ^^^ (rotL (((f (at0 + 3)) ^^^ (rotL (f (at0 + 2)) (nI 3))) ^^^ ((rotL (f at0) (nI 13)) <<< ((nI 3) &&& 31))) (nI 7))) (nI 5))) (at0 + 1) (rotL (((f (at0 + 1)) ^^^ (rotL (f at0) (nI 13))) ^^^ (rotL (f (at0 + 2)) (nI 3))) (nI 1))) (at0 + 2) (rotL (((rotL (f (at0 + 2)) (nI 3)) ^^^ (rotL (((f (at0 + 3)) ^^^ (rotL (f (at0 + 2)) (nI 3))) ^^^ ((rotL (f at0) (nI 13)) <<< ((nI 3) &&& 31))) (nI 7))) ^^^ ((rotL (((f (at0 + 1)) ^^^ (rotL (f at0) (nI 13))) ^^^ (rotL (f (at0 + 2)) (nI 3))) (nI 1)) <<< ((nI 7) &&& 31))) (nI 22))) (at0 + 3) (rotL (((f (at0 + 3)) ^^^ (rotL (f (at0 + 2)) (nI 3))) ^^^ ((rotL (f at0) (nI 13)) <<< ((nI 3) &&& 31))) (nI 7)))))] := hD
  exact W.vret hx hb hr (fun t ht hW => ⟨⟨(), rfl, trivial, by rw [ht]; exact hP, va_K.moved hW.alike hK, hD⟩, hS.F ht⟩) hS.2.2 dX0_mix_104
set_option maxHeartbeats 4000000 in
set_option maxRecDepth 100000 in
theorem c_X0_unmix (l : Launch) (D : va_G) (cI : ClassId) (sz : Nat) (w at0 n : Nat) (f : Nat → Int32) (h1 : at0 + 4 ≤ n) (h3 : n < 2 ^ 31) : Met l yX0_unmix wsX0_unmix ({ frames := 1, cells := 0, slots := 0, locals := 21 }) (va_Pc [.ref w, .int (nI at0)] (fun U => PW D [(cI, .int)] [(w, .inl (cI, n, .inl f))] sz U ∧ True)) (va_Qv (fun _ : Unit => True) (fun _ => BW D [(cI, .int)] (va_A [(w, .inl (cI, n, .inl f))] sz) [(w, .inl (cI, n, .inl (st4 f at0 (cUnmix (ld4 f at0)))))]) (va_A [(w, .inl (cI, n, .inl f))] sz)) 0 0 (va_A [(w, .inl (cI, n, .inl f))] sz) := by
  refine Met.ofW (cc := cX0_unmix) (maxL := 6) (ret := none) (by decide) rfl ?_
  intro p e s m args below meth c s₁ B hml hv
  obtain ⟨rfl, ⟨hsz, hP, hK, hD0⟩, -⟩ := hv
  have hx := B.exec
  have hb := B.bytes
  have hr := B.returns
  have hts := atoms_spec (ws := wsX0_unmix) B.pre
  have hown : s.vm.findClass RX0 = some m.cls := findClass_of_methodNamed B.named
  have hlocks := B.notSynchronized
  subst hsz
  have hD := hD0.self (sz := s.heap.size)
  generalize hAe : va_A [(w, .inl (cI, n, .inl f))] s.heap.size = A at hD ⊢
  have hA : ∀ q : Nat, s.heap.size ≤ q → A q := fun q h => by rw [← hAe]; exact Or.inr h
  have hS : va_S A s.heap s.heap [] := va_S.rf
  have hl := lv_entry ([.ref w, .int (nI at0)]) (n := 6) (Nat.le_of_ble_eq_true rfl)
  rw [lg_entry_eq]
  generalize (lg_sl ([.ref w, .int (nI at0)]) ++ List.replicate (6 - (lg_sl ([.ref w, .int (nI at0)])).length) Slot.unset).toArray = ls at hl ⊢
  have hl : lv_has ls 6 [(0, .ref w), (1, .int (nI at0))] := hl
  refine lv_aload_n hx hb dX0_unmix_0 rfl (lv_at hl 0 rfl) ?_
  refine lv_iload_n hx hb dX0_unmix_1 rfl (lv_at hl 1 rfl) ?_
  refine lv_iconst (v := nI 1) hx hb dX0_unmix_2 (by decide) ?_
  refine wk_iaddN hx hb (a := at0) (b := 1) dX0_unmix_3 ?_
  refine wk_iald hx hb hK hP 0 0 rfl rfl (k := at0 + 1) (by omega) (by omega) dX0_unmix_4 ?_
  refine lv_istore_n (lv' := [(2, .int (f (at0 + 1))), (0, .ref w), (1, .int (nI at0))]) hx hb dX0_unmix_5 rfl hl (by decide) rfl (fun ls hl => ?_)
  refine lv_aload_n hx hb dX0_unmix_6 rfl (lv_at hl 1 rfl) ?_
  refine lv_iload_n hx hb dX0_unmix_7 rfl (lv_at hl 2 rfl) ?_
  refine lv_iconst (v := nI 3) hx hb dX0_unmix_8 (by decide) ?_
  refine wk_iaddN hx hb (a := at0) (b := 3) dX0_unmix_9 ?_
  refine wk_iald hx hb hK hP 0 0 rfl rfl (k := at0 + 3) (by omega) (by omega) dX0_unmix_10 ?_
  refine lv_istore_n (lv' := [(3, .int (f (at0 + 3))), (2, .int (f (at0 + 1))), (0, .ref w), (1, .int (nI at0))]) hx hb dX0_unmix_11 rfl hl (by decide) rfl (fun ls hl => ?_)
  refine lv_aload_n hx hb dX0_unmix_12 rfl (lv_at hl 2 rfl) ?_
  refine lv_iload_n hx hb dX0_unmix_13 rfl (lv_at hl 3 rfl) ?_
  refine lv_iconst (v := nI 2) hx hb dX0_unmix_14 (by decide) ?_
  refine wk_iaddN hx hb (a := at0) (b := 2) dX0_unmix_15 ?_
  refine wk_iald hx hb hK hP 0 0 rfl rfl (k := at0 + 2) (by omega) (by omega) dX0_unmix_16 ?_
  refine lv_bipush (v := nI 22) hx hb dX0_unmix_17 (by decide) ?_
  refine wk_Sp (v := rotR (f (at0 + 2)) (nI 22)) (As := [.int (f (at0 + 2)), .int (nI 22)]) (rest := []) ⟨hx, hb, hml, hown, hts⟩ (c_J6_rotateRight l (f (at0 + 2)) (nI 22)) (va_cwS 2 hts gX0_unmix_J6_rotateRight_7cf53 rfl rfl rfl (by decide +kernel) ⟨Nat.le_of_ble_eq_true rfl, Nat.le_of_ble_eq_true rfl⟩) rfl hl.1 rfl (Nat.le_of_ble_eq_true rfl) dX0_unmix_19 ⟨Nat.zero_le _, Nat.zero_le _⟩ ?_
  refine lv_iload_n hx hb dX0_unmix_22 rfl (lv_at hl 0 rfl) ?_
  refine lv_ixor hx hb dX0_unmix_23 ?_
  refine lv_iload_n hx hb dX0_unmix_24 rfl (lv_at hl 1 rfl) ?_
  refine lv_bipush (v := nI 7) hx hb dX0_unmix_25 (by decide) ?_
  refine lv_ishl hx hb dX0_unmix_27 ?_
  refine lv_ixor hx hb dX0_unmix_28 ?_
  refine lv_istore (lv' := [(4, .int (((rotR (f (at0 + 2)) (nI 22)) ^^^ (f (at0 + 3))) ^^^ ((f (at0 + 1)) <<< ((nI 7) &&& 31)))), (3, .int (f (at0 + 3))), (2, .int (f (at0 + 1))), (0, .ref w), (1, .int (nI at0))]) hx hb dX0_unmix_29 hl (by decide) rfl (fun ls hl => ?_)
  refine lv_aload_n hx hb dX0_unmix_31 rfl (lv_at hl 3 rfl) ?_
  refine lv_iload_n hx hb dX0_unmix_32 rfl (lv_at hl 4 rfl) ?_
  refine wk_iald hx hb hK hP 0 0 rfl rfl (k := at0) (by omega) (by omega) dX0_unmix_33 ?_
  refine lv_iconst (v := nI 5) hx hb dX0_unmix_34 (by decide) ?_
  refine wk_Sp (v := rotR (f at0) (nI 5)) (As := [.int (f at0), .int (nI 5)]) (rest := []) ⟨hx, hb, hml, hown, hts⟩ (c_J6_rotateRight l (f at0) (nI 5)) (va_cwS 2 hts gX0_unmix_J6_rotateRight_7cf53 rfl rfl rfl (by decide +kernel) ⟨Nat.le_of_ble_eq_true rfl, Nat.le_of_ble_eq_true rfl⟩) rfl hl.1 rfl (Nat.le_of_ble_eq_true rfl) dX0_unmix_35 ⟨Nat.zero_le _, Nat.zero_le _⟩ ?_
  refine lv_iload_n hx hb dX0_unmix_38 rfl (lv_at hl 2 rfl) ?_
  refine lv_ixor hx hb dX0_unmix_39 ?_
  refine lv_iload_n hx hb dX0_unmix_40 rfl (lv_at hl 1 rfl) ?_
  refine lv_ixor hx hb dX0_unmix_41 ?_
  refine lv_istore (lv' := [(5, .int (((rotR (f at0) (nI 5)) ^^^ (f (at0 + 1))) ^^^ (f (at0 + 3)))), (4, .int (((rotR (f (at0 + 2)) (nI 22)) ^^^ (f (at0 + 3))) ^^^ ((f (at0 + 1)) <<< ((nI 7) &&& 31)))), (3, .int (f (at0 + 3))), (2, .int (f (at0 + 1))), (0, .ref w), (1, .int (nI at0))]) hx hb dX0_unmix_42 hl (by decide) rfl (fun ls hl => ?_)
  refine lv_aload_n hx hb dX0_unmix_44 rfl (lv_at hl 4 rfl) ?_
  refine lv_iload_n hx hb dX0_unmix_45 rfl (lv_at hl 5 rfl) ?_
  refine lv_iload hx hb dX0_unmix_46 (lv_at hl 0 rfl) ?_
  refine lv_bipush (v := nI 13) hx hb dX0_unmix_48 (by decide) ?_
  refine wk_Sp (v := rotR (((rotR (f at0) (nI 5)) ^^^ (f (at0 + 1))) ^^^ (f (at0 + 3))) (nI 13)) (As := [.int (((rotR (f at0) (nI 5)) ^^^ (f (at0 + 1))) ^^^ (f (at0 + 3))), .int (nI 13)]) (rest := [.int (nI at0), .ref w]) ⟨hx, hb, hml, hown, hts⟩ (c_J6_rotateRight l (((rotR (f at0) (nI 5)) ^^^ (f (at0 + 1))) ^^^ (f (at0 + 3))) (nI 13)) (va_cwS 2 hts gX0_unmix_J6_rotateRight_7cf53 rfl rfl rfl (by decide +kernel) ⟨Nat.le_of_ble_eq_true rfl, Nat.le_of_ble_eq_true rfl⟩) rfl hl.1 rfl (Nat.le_of_ble_eq_true rfl) dX0_unmix_50 ⟨Nat.zero_le _, Nat.zero_le _⟩ ?_
  refine wk_iast hx hb hK hP hD hS 0 0 rfl rfl (k := at0) (x := rotR (((rotR (f at0) (nI 5)) ^^^ (f (at0 + 1))) ^^^ (f (at0 + 3))) (nI 13)) (by omega) (by omega) dX0_unmix_53 (fun H locs hP hD hS => ?_)
  have hP : va_P D vwCl [(w, .inl (cI, n, .inl (upd f at0 (rotR (((rotR (f at0) (nI 5)) ^^^ (f (at0 + 1))) ^^^ (f (at0 + 3))) (nI 13)))))] H := hP
  have hD : va_D A [(w, .inl (cI, n, .inl (upd f at0 (rotR (((rotR (f at0) (nI 5)) ^^^ (f (at0 + 1))) ^^^ (f (at0 + 3))) (nI 13)))))] := hD
  refine lv_aload_n hx hb dX0_unmix_54 rfl (lv_at hl 4 rfl) ?_
  refine lv_iload_n hx hb dX0_unmix_55 rfl (lv_at hl 5 rfl) ?_
  refine lv_iconst (v := nI 1) hx hb dX0_unmix_56 (by decide) ?_
  refine wk_iaddN hx hb (a := at0) (b := 1) dX0_unmix_57 ?_
  refine lv_iload_n hx hb dX0_unmix_58 rfl (lv_at hl 3 rfl) ?_
  refine lv_iconst (v := nI 1) hx hb dX0_unmix_59 (by decide) ?_
  refine wk_Sp (v := rotR (f (at0 + 1)) (nI 1)) (As := [.int (f (at0 + 1)), .int (nI 1)]) (rest := [.int (nI (at0 + 1)), .ref w]) ⟨hx, hb, hml, hown, hts⟩ (c_J6_rotateRight l (f (at0 + 1)) (nI 1)) (va_cwS 2 hts gX0_unmix_J6_rotateRight_7cf53 rfl rfl rfl (by decide +kernel) ⟨Nat.le_of_ble_eq_true rfl, Nat.le_of_ble_eq_true rfl⟩) rfl hl.1 rfl (Nat.le_of_ble_eq_true rfl) dX0_unmix_60 ⟨Nat.zero_le _, Nat.zero_le _⟩ ?_
  refine lv_iload hx hb dX0_unmix_63 (lv_at hl 0 rfl) ?_
  refine lv_ixor hx hb dX0_unmix_65 ?_
  refine lv_iload hx hb dX0_unmix_66 (lv_at hl 1 rfl) ?_
  refine lv_ixor hx hb dX0_unmix_68 ?_
  refine wk_iast hx hb hK hP hD hS 0 0 rfl rfl (k := at0 + 1) (x := ((rotR (f (at0 + 1)) (nI 1)) ^^^ (((rotR (f at0) (nI 5)) ^^^ (f (at0 + 1))) ^^^ (f (at0 + 3)))) ^^^ (((rotR (f (at0 + 2)) (nI 22)) ^^^ (f (at0 + 3))) ^^^ ((f (at0 + 1)) <<< ((nI 7) &&& 31)))) (by omega) (by omega) dX0_unmix_69 (fun H locs hP hD hS => ?_)
  have hP : va_P D vwCl [(w, .inl (cI, n, .inl (upd (upd f at0 (rotR (((rotR (f at0) (nI 5)) ^^^ (f (at0 + 1))) ^^^ (f (at0 + 3))) (nI 13))) (at0 + 1) (((rotR (f (at0 + 1)) (nI 1)) ^^^ (((rotR (f at0) (nI 5)) ^^^ (f (at0 + 1))) ^^^ (f (at0 + 3)))) ^^^ (((rotR (f (at0 + 2)) (nI 22)) ^^^ (f (at0 + 3))) ^^^ ((f (at0 + 1)) <<< ((nI 7) &&& 31)))))))] H := hP
  have hD : va_D A [(w, .inl (cI, n, .inl (upd (upd f at0 (rotR (((rotR (f at0) (nI 5)) ^^^ (f (at0 + 1))) ^^^ (f (at0 + 3))) (nI 13))) (at0 + 1) (((rotR (f (at0 + 1)) (nI 1)) ^^^ (((rotR (f at0) (nI 5)) ^^^ (f (at0 + 1))) ^^^ (f (at0 + 3)))) ^^^ (((rotR (f (at0 + 2)) (nI 22)) ^^^ (f (at0 + 3))) ^^^ ((f (at0 + 1)) <<< ((nI 7) &&& 31)))))))] := hD
  refine lv_aload_n hx hb dX0_unmix_70 rfl (lv_at hl 4 rfl) ?_
  refine lv_iload_n hx hb dX0_unmix_71 rfl (lv_at hl 5 rfl) ?_
  refine lv_iconst (v := nI 2) hx hb dX0_unmix_72 (by decide) ?_
  refine wk_iaddN hx hb (a := at0) (b := 2) dX0_unmix_73 ?_
  refine lv_iload hx hb dX0_unmix_74 (lv_at hl 1 rfl) ?_
  refine lv_iconst (v := nI 3) hx hb dX0_unmix_76 (by decide) ?_
  refine wk_Sp (v := rotR (((rotR (f (at0 + 2)) (nI 22)) ^^^ (f (at0 + 3))) ^^^ ((f (at0 + 1)) <<< ((nI 7) &&& 31))) (nI 3)) (As := [.int (((rotR (f (at0 + 2)) (nI 22)) ^^^ (f (at0 + 3))) ^^^ ((f (at0 + 1)) <<< ((nI 7) &&& 31))), .int (nI 3)]) (rest := [.int (nI (at0 + 2)), .ref w]) ⟨hx, hb, hml, hown, hts⟩ (c_J6_rotateRight l (((rotR (f (at0 + 2)) (nI 22)) ^^^ (f (at0 + 3))) ^^^ ((f (at0 + 1)) <<< ((nI 7) &&& 31))) (nI 3)) (va_cwS 2 hts gX0_unmix_J6_rotateRight_7cf53 rfl rfl rfl (by decide +kernel) ⟨Nat.le_of_ble_eq_true rfl, Nat.le_of_ble_eq_true rfl⟩) rfl hl.1 rfl (Nat.le_of_ble_eq_true rfl) dX0_unmix_77 ⟨Nat.zero_le _, Nat.zero_le _⟩ ?_
  refine wk_iast hx hb hK hP hD hS 0 0 rfl rfl (k := at0 + 2) (x := rotR (((rotR (f (at0 + 2)) (nI 22)) ^^^ (f (at0 + 3))) ^^^ ((f (at0 + 1)) <<< ((nI 7) &&& 31))) (nI 3)) (by omega) (by omega) dX0_unmix_80 (fun H locs hP hD hS => ?_)
  have hP : va_P D vwCl [(w, .inl (cI, n, .inl (upd (upd (upd f at0 (rotR (((rotR (f at0) (nI 5)) ^^^ (f (at0 + 1))) ^^^ (f (at0 + 3))) (nI 13))) (at0 + 1) (((rotR (f (at0 + 1)) (nI 1)) ^^^ (((rotR (f at0) (nI 5)) ^^^ (f (at0 + 1))) ^^^ (f (at0 + 3)))) ^^^ (((rotR (f (at0 + 2)) (nI 22)) ^^^ (f (at0 + 3))) ^^^ ((f (at0 + 1)) <<< ((nI 7) &&& 31))))) (at0 + 2) (rotR (((rotR (f (at0 + 2)) (nI 22)) ^^^ (f (at0 + 3))) ^^^ ((f (at0 + 1)) <<< ((nI 7) &&& 31))) (nI 3)))))] H := hP
  have hD : va_D A [(w, .inl (cI, n, .inl (upd (upd (upd f at0 (rotR (((rotR (f at0) (nI 5)) ^^^ (f (at0 + 1))) ^^^ (f (at0 + 3))) (nI 13))) (at0 + 1) (((rotR (f (at0 + 1)) (nI 1)) ^^^ (((rotR (f at0) (nI 5)) ^^^ (f (at0 + 1))) ^^^ (f (at0 + 3)))) ^^^ (((rotR (f (at0 + 2)) (nI 22)) ^^^ (f (at0 + 3))) ^^^ ((f (at0 + 1)) <<< ((nI 7) &&& 31))))) (at0 + 2) (rotR (((rotR (f (at0 + 2)) (nI 22)) ^^^ (f (at0 + 3))) ^^^ ((f (at0 + 1)) <<< ((nI 7) &&& 31))) (nI 3)))))] := hD
  refine lv_aload_n hx hb dX0_unmix_81 rfl (lv_at hl 4 rfl) ?_
  refine lv_iload_n hx hb dX0_unmix_82 rfl (lv_at hl 5 rfl) ?_
  refine lv_iconst (v := nI 3) hx hb dX0_unmix_83 (by decide) ?_
  refine wk_iaddN hx hb (a := at0) (b := 3) dX0_unmix_84 ?_
  refine lv_iload_n hx hb dX0_unmix_85 rfl (lv_at hl 2 rfl) ?_
  refine lv_bipush (v := nI 7) hx hb dX0_unmix_86 (by decide) ?_
  refine wk_Sp (v := rotR (f (at0 + 3)) (nI 7)) (As := [.int (f (at0 + 3)), .int (nI 7)]) (rest := [.int (nI (at0 + 3)), .ref w]) ⟨hx, hb, hml, hown, hts⟩ (c_J6_rotateRight l (f (at0 + 3)) (nI 7)) (va_cwS 2 hts gX0_unmix_J6_rotateRight_7cf53 rfl rfl rfl (by decide +kernel) ⟨Nat.le_of_ble_eq_true rfl, Nat.le_of_ble_eq_true rfl⟩) rfl hl.1 rfl (Nat.le_of_ble_eq_true rfl) dX0_unmix_88 ⟨Nat.zero_le _, Nat.zero_le _⟩ ?_
  refine lv_iload hx hb dX0_unmix_91 (lv_at hl 1 rfl) ?_
  refine lv_ixor hx hb dX0_unmix_93 ?_
  refine lv_iload hx hb dX0_unmix_94 (lv_at hl 0 rfl) ?_
  refine lv_iconst (v := nI 3) hx hb dX0_unmix_96 (by decide) ?_
  refine lv_ishl hx hb dX0_unmix_97 ?_
  refine lv_ixor hx hb dX0_unmix_98 ?_
  refine wk_iast hx hb hK hP hD hS 0 0 rfl rfl (k := at0 + 3) (x := ((rotR (f (at0 + 3)) (nI 7)) ^^^ (((rotR (f (at0 + 2)) (nI 22)) ^^^ (f (at0 + 3))) ^^^ ((f (at0 + 1)) <<< ((nI 7) &&& 31)))) ^^^ ((((rotR (f at0) (nI 5)) ^^^ (f (at0 + 1))) ^^^ (f (at0 + 3))) <<< ((nI 3) &&& 31))) (by omega) (by omega) dX0_unmix_99 (fun H locs hP hD hS => ?_)
  have hP : va_P D vwCl [(w, .inl (cI, n, .inl (upd (upd (upd (upd f at0 (rotR (((rotR (f at0) (nI 5)) ^^^ (f (at0 + 1))) ^^^ (f (at0 + 3))) (nI 13))) (at0 + 1) (((rotR (f (at0 + 1)) (nI 1)) ^^^ (((rotR (f at0) (nI 5)) ^^^ (f (at0 + 1))) ^^^ (f (at0 + 3)))) ^^^ (((rotR (f (at0 + 2)) (nI 22)) ^^^ (f (at0 + 3))) ^^^ ((f (at0 + 1)) <<< ((nI 7) &&& 31))))) (at0 + 2) (rotR (((rotR (f (at0 + 2)) (nI 22)) ^^^ (f (at0 + 3))) ^^^ ((f (at0 + 1)) <<< ((nI 7) &&& 31))) (nI 3))) (at0 + 3) (((rotR (f (at0 + 3)) (nI 7)) ^^^ (((rotR (f (at0 + 2)) (nI 22)) ^^^ (f (at0 + 3))) ^^^ ((f (at0 + 1)) <<< ((nI 7) &&& 31)))) ^^^ ((((rotR (f at0) (nI 5)) ^^^ (f (at0 + 1))) ^^^ (f (at0 + 3))) <<< ((nI 3) &&& 31))))))] H := hP
  have hD : va_D A [(w, .inl (cI, n, .inl (upd (upd (upd (upd f at0 (rotR (((rotR (f at0) (nI 5)) ^^^ (f (at0 + 1))) ^^^ (f (at0 + 3))) (nI 13))) (at0 + 1) (((rotR (f (at0 + 1)) (nI 1)) ^^^ (((rotR (f at0) (nI 5)) ^^^ (f (at0 + 1))) ^^^ (f (at0 + 3)))) ^^^ (((rotR (f (at0 + 2)) (nI 22)) ^^^ (f (at0 + 3))) ^^^ ((f (at0 + 1)) <<< ((nI 7) &&& 31))))) (at0 + 2) (rotR (((rotR (f (at0 + 2)) (nI 22)) ^^^ (f (at0 + 3))) ^^^ ((f (at0 + 1)) <<< ((nI 7) &&& 31))) (nI 3))) (at0 + 3) (((rotR (f (at0 + 3)) (nI 7)) ^^^ (((rotR (f (at0 + 2)) (nI 22)) ^^^ (f (at0 + 3))) ^^^ ((f (at0 + 1)) <<< ((nI 7) &&& 31)))) ^^^ ((((rotR (f at0) (nI 5)) ^^^ (f (at0 + 1))) ^^^ (f (at0 + 3))) <<< ((nI 3) &&& 31))))))] := hD
  exact W.vret hx hb hr (fun t ht hW => ⟨⟨(), rfl, trivial, by rw [ht]; exact hP, va_K.moved hW.alike hK, hD⟩, hS.F ht⟩) hS.2.2 dX0_unmix_100
set_option maxHeartbeats 4000000 in
set_option maxRecDepth 100000 in
theorem c_X0_passBox0 (l : Launch) (D : va_G) (cI : ClassId) (tb : Nat) (sz : Nat) (w at0 wh n : Nat) (f : Nat → Int32) (h1 : at0 + 4 ≤ n) (h2 : wh < 8) (h3 : n < 2 ^ 31) : Met l yX0_passBox wsX0_passBox ({ frames := 2, cells := 0, slots := 0, locals := 41 }) (va_Pc [.ref w, .int (nI at0), .int (nI wh), .int (nI 0)] (fun U => PW D [(cI, .int)] [(w, .inl (cI, n, .inl f))] sz U ∧ bxs tb (va_A [(w, .inl (cI, n, .inl f))] sz) U U.heap)) (va_Qv (fun _ : Unit => True) (fun _ => BW D [(cI, .int)] (va_A [(w, .inl (cI, n, .inl f))] sz) [(w, .inl (cI, n, .inl (st4 f at0 (cBox 0 wh (ld4 f at0)))))]) (va_A [(w, .inl (cI, n, .inl f))] sz)) 0 0 (va_A [(w, .inl (cI, n, .inl f))] sz) := by
  refine Met.ofW (cc := cX0_passBox) (maxL := 17) (ret := none) (by decide) rfl ?_
  intro p e s m args below meth c s₁ B hml hv
  obtain ⟨rfl, ⟨hsz, hP, hK, hD0⟩, hbx⟩ := hv
  have hx := B.exec
  have hb := B.bytes
  have hr := B.returns
  have hts := atoms_spec (ws := wsX0_passBox) B.pre
  have hown : s.vm.findClass RX0 = some m.cls := findClass_of_methodNamed B.named
  have hlocks := B.notSynchronized
  subst hsz
  have hD := hD0.self (sz := s.heap.size)
  generalize hAe : va_A [(w, .inl (cI, n, .inl f))] s.heap.size = A at hbx hD ⊢
  have hA : ∀ q : Nat, s.heap.size ≤ q → A q := fun q h => by rw [← hAe]; exact Or.inr h
  have hS : va_S A s.heap s.heap [] := va_S.rf
  have hl := lv_entry ([.ref w, .int (nI at0), .int (nI wh), .int (nI 0)]) (n := 17) (Nat.le_of_ble_eq_true rfl)
  rw [lg_entry_eq]
  generalize (lg_sl ([.ref w, .int (nI at0), .int (nI wh), .int (nI 0)]) ++ List.replicate (17 - (lg_sl ([.ref w, .int (nI at0), .int (nI wh), .int (nI 0)])).length) Slot.unset).toArray = ls at hl ⊢
  have hl : lv_has ls 17 [(0, .ref w), (1, .int (nI at0)), (2, .int (nI wh)), (3, .int (nI 0))] := hl
  have lp : ∀ (fu : Nat) (i : Nat), i ≤ 16 → 16 + 1 ≤ i + fu → ∀ (H : Heap) (locs : List Loc), va_P D vwCl [(w, .inl (cI, n, .inl f))] H → va_D A [(w, .inl (cI, n, .inl f))] → va_S A s.heap H locs → ∀ (ls : Array Slot), lv_has ls 17 [(0, .ref w), (1, .int (nI at0)), (2, .int (nI wh)), (3, .int (nI 0)), (4, .int (f at0)), (5, .int (f (at0 + 1))), (6, .int (f (at0 + 2))), (7, .int (f (at0 + 3))), (8, .int ((pbN 0 wh (ld4 f at0) i).1)), (9, .int ((pbN 0 wh (ld4 f at0) i).2.1)), (10, .int ((pbN 0 wh (ld4 f at0) i).2.2.1)), (11, .int ((pbN 0 wh (ld4 f at0) i).2.2.2)), (12, .int (nI i))] → W p l e ((headSpec wsX0_passBox ({ frames := 2, cells := 0, slots := 0, locals := 41 })).room) s m ([.ref w, .int (nI at0), .int (nI wh), .int (nI 0)] : List Value).toArray below meth c H locs 0 0 (MQ below (va_Qv (fun _ : Unit => True) (fun _ => BW D [(cI, .int)] A [(w, .inl (cI, n, .inl (st4 f at0 (cBox 0 wh (ld4 f at0)))))]) A) ([.ref w, .int (nI at0), .int (nI wh), .int (nI 0)] : List Value).toArray s 0 0 (A)) (F0 m 41 ls []) := by
    intro fu
    induction fu with
      | zero => intro i hi hfu; exact absurd hfu (by omega)
      | succ fu ih =>
        intro i hi hfu H locs hP hD hS ls hl
        refine lv_iload hx hb dX0_passBox_41 (lv_at hl 12 rfl) ?_
        refine lv_bipush (v := nI 16) hx hb dX0_passBox_43 (by decide) ?_
        refine wk_geN (tgt := 190) hx hb (a := i) (b := 16) (by omega) (by decide) dX0_passBox_45 (by decide) (fun c45 => ?_) (fun c45 => ?_)
        · obtain rfl : i = 16 := by omega
          refine lv_aload_n hx hb dX0_passBox_190 rfl (lv_at hl 0 rfl) ?_
          refine lv_iload_n hx hb dX0_passBox_191 rfl (lv_at hl 1 rfl) ?_
          refine lv_iload hx hb dX0_passBox_192 (lv_at hl 8 rfl) ?_
          refine wk_iast hx hb hK hP hD hS 0 0 rfl rfl (k := at0) (x := (pbN 0 wh (ld4 f at0) 16).1) (by omega) (by omega) dX0_passBox_194 (fun H locs hP hD hS => ?_)
          have hP : va_P D vwCl [(w, .inl (cI, n, .inl (upd f at0 ((pbN 0 wh (ld4 f at0) 16).1))))] H := hP
          have hD : va_D A [(w, .inl (cI, n, .inl (upd f at0 ((pbN 0 wh (ld4 f at0) 16).1))))] := hD
          refine lv_aload_n hx hb dX0_passBox_195 rfl (lv_at hl 0 rfl) ?_
          refine lv_iload_n hx hb dX0_passBox_196 rfl (lv_at hl 1 rfl) ?_
          refine lv_iconst (v := nI 1) hx hb dX0_passBox_197 (by decide) ?_
          refine wk_iaddN hx hb (a := at0) (b := 1) dX0_passBox_198 ?_
          refine lv_iload hx hb dX0_passBox_199 (lv_at hl 9 rfl) ?_
          refine wk_iast hx hb hK hP hD hS 0 0 rfl rfl (k := at0 + 1) (x := (pbN 0 wh (ld4 f at0) 16).2.1) (by omega) (by omega) dX0_passBox_201 (fun H locs hP hD hS => ?_)
          have hP : va_P D vwCl [(w, .inl (cI, n, .inl (upd (upd f at0 ((pbN 0 wh (ld4 f at0) 16).1)) (at0 + 1) ((pbN 0 wh (ld4 f at0) 16).2.1))))] H := hP
          have hD : va_D A [(w, .inl (cI, n, .inl (upd (upd f at0 ((pbN 0 wh (ld4 f at0) 16).1)) (at0 + 1) ((pbN 0 wh (ld4 f at0) 16).2.1))))] := hD
          refine lv_aload_n hx hb dX0_passBox_202 rfl (lv_at hl 0 rfl) ?_
          refine lv_iload_n hx hb dX0_passBox_203 rfl (lv_at hl 1 rfl) ?_
          refine lv_iconst (v := nI 2) hx hb dX0_passBox_204 (by decide) ?_
          refine wk_iaddN hx hb (a := at0) (b := 2) dX0_passBox_205 ?_
          refine lv_iload hx hb dX0_passBox_206 (lv_at hl 10 rfl) ?_
          refine wk_iast hx hb hK hP hD hS 0 0 rfl rfl (k := at0 + 2) (x := (pbN 0 wh (ld4 f at0) 16).2.2.1) (by omega) (by omega) dX0_passBox_208 (fun H locs hP hD hS => ?_)
          have hP : va_P D vwCl [(w, .inl (cI, n, .inl (upd (upd (upd f at0 ((pbN 0 wh (ld4 f at0) 16).1)) (at0 + 1) ((pbN 0 wh (ld4 f at0) 16).2.1)) (at0 + 2) ((pbN 0 wh (ld4 f at0) 16).2.2.1))))] H := hP
          have hD : va_D A [(w, .inl (cI, n, .inl (upd (upd (upd f at0 ((pbN 0 wh (ld4 f at0) 16).1)) (at0 + 1) ((pbN 0 wh (ld4 f at0) 16).2.1)) (at0 + 2) ((pbN 0 wh (ld4 f at0) 16).2.2.1))))] := hD
          refine lv_aload_n hx hb dX0_passBox_209 rfl (lv_at hl 0 rfl) ?_
          refine lv_iload_n hx hb dX0_passBox_210 rfl (lv_at hl 1 rfl) ?_
          refine lv_iconst (v := nI 3) hx hb dX0_passBox_211 (by decide) ?_
          refine wk_iaddN hx hb (a := at0) (b := 3) dX0_passBox_212 ?_
          refine lv_iload hx hb dX0_passBox_213 (lv_at hl 11 rfl) ?_
          refine wk_iast hx hb hK hP hD hS 0 0 rfl rfl (k := at0 + 3) (x := (pbN 0 wh (ld4 f at0) 16).2.2.2) (by omega) (by omega) dX0_passBox_215 (fun H locs hP hD hS => ?_)
          have hP : va_P D vwCl [(w, .inl (cI, n, .inl (upd (upd (upd (upd f at0 ((pbN 0 wh (ld4 f at0) 16).1)) (at0 + 1) ((pbN 0 wh (ld4 f at0) 16).2.1)) (at0 + 2) ((pbN 0 wh (ld4 f at0) 16).2.2.1)) (at0 + 3) ((pbN 0 wh (ld4 f at0) 16).2.2.2))))] H := hP
          have hD : va_D A [(w, .inl (cI, n, .inl (upd (upd (upd (upd f at0 ((pbN 0 wh (ld4 f at0) 16).1)) (at0 + 1) ((pbN 0 wh (ld4 f at0) 16).2.1)) (at0 + 2) ((pbN 0 wh (ld4 f at0) 16).2.2.1)) (at0 + 3) ((pbN 0 wh (ld4 f at0) 16).2.2.2))))] := hD
          exact W.vret hx hb hr (fun t ht hW => ⟨⟨(), rfl, trivial, by rw [ht]; exact hP, va_K.moved hW.alike hK, hD⟩, hS.F ht⟩) hS.2.2 dX0_passBox_216
        · refine va_gets (C := "SlicedCipher") (n := "BOXES") (d := "[I") (v := .ref tb) hx hb hbx.1 hS hown (hts (.fieldLink RX0 83 "SlicedCipher" "BOXES" "[I") (by decide +kernel)) (fun _ h9 => h9) dX0_passBox_48 ?_
          refine lv_iload_n hx hb dX0_passBox_51 rfl (lv_at hl 2 rfl) ?_
          refine lv_bipush (v := nI 16) hx hb dX0_passBox_52 (by decide) ?_
          refine wk_imulN hx hb (a := wh) (b := 16) dX0_passBox_54 ?_
          refine lv_iload hx hb dX0_passBox_55 (lv_at hl 12 rfl) ?_
          refine wk_iaddN hx hb (a := wh * 16) (b := i) dX0_passBox_57 ?_
          refine wk_tbl hx hb hbx.2 hS (k := (wh * 16) + i) (by omega) dX0_passBox_58 ?_
          refine lv_istore (lv' := [(13, .int (TB ((wh * 16) + i))), (0, .ref w), (1, .int (nI at0)), (2, .int (nI wh)), (3, .int (nI 0)), (4, .int (f at0)), (5, .int (f (at0 + 1))), (6, .int (f (at0 + 2))), (7, .int (f (at0 + 3))), (8, .int ((pbN 0 wh (ld4 f at0) i).1)), (9, .int ((pbN 0 wh (ld4 f at0) i).2.1)), (10, .int ((pbN 0 wh (ld4 f at0) i).2.2.1)), (11, .int ((pbN 0 wh (ld4 f at0) i).2.2.2)), (12, .int (nI i))]) hx hb dX0_passBox_59 hl (by decide) rfl (fun ls hl => ?_)
          refine lv_iload_n hx hb dX0_passBox_61 rfl (lv_at hl 4 rfl) ?_
          refine wk_eq0N (tgt := 70) hx hb (a := 0) (by decide) dX0_passBox_62 (by decide) (fun c62 => ?_) (fun c62 => absurd c62 (fun h => h rfl))
          refine lv_iload hx hb dX0_passBox_70 (lv_at hl 13 rfl) ?_
          refine lv_istore (lv' := [(14, .int (nI i)), (13, .int (TB ((wh * 16) + i))), (0, .ref w), (1, .int (nI at0)), (2, .int (nI wh)), (3, .int (nI 0)), (4, .int (f at0)), (5, .int (f (at0 + 1))), (6, .int (f (at0 + 2))), (7, .int (f (at0 + 3))), (8, .int ((pbN 0 wh (ld4 f at0) i).1)), (9, .int ((pbN 0 wh (ld4 f at0) i).2.1)), (10, .int ((pbN 0 wh (ld4 f at0) i).2.2.1)), (11, .int ((pbN 0 wh (ld4 f at0) i).2.2.2)), (12, .int (nI i))]) hx hb dX0_passBox_72 hl (by decide) rfl (fun ls hl => ?_)
          refine lv_iload_n hx hb dX0_passBox_74 rfl (lv_at hl 5 rfl) ?_
          refine wk_eq0N (tgt := 83) hx hb (a := 0) (by decide) dX0_passBox_75 (by decide) (fun c75 => ?_) (fun c75 => absurd c75 (fun h => h rfl))
          refine lv_iload hx hb dX0_passBox_83 (lv_at hl 1 rfl) ?_
          refine lv_istore (lv' := [(15, .int (TB ((wh * 16) + i))), (14, .int (nI i)), (13, .int (TB ((wh * 16) + i))), (0, .ref w), (1, .int (nI at0)), (2, .int (nI wh)), (3, .int (nI 0)), (4, .int (f at0)), (5, .int (f (at0 + 1))), (6, .int (f (at0 + 2))), (7, .int (f (at0 + 3))), (8, .int ((pbN 0 wh (ld4 f at0) i).1)), (9, .int ((pbN 0 wh (ld4 f at0) i).2.1)), (10, .int ((pbN 0 wh (ld4 f at0) i).2.2.1)), (11, .int ((pbN 0 wh (ld4 f at0) i).2.2.2)), (12, .int (nI i))]) hx hb dX0_passBox_85 hl (by decide) rfl (fun ls hl => ?_)
          refine lv_iload hx hb dX0_passBox_87 (lv_at hl 7 rfl) ?_
          refine lv_iload hx hb dX0_passBox_89 (lv_at hl 1 rfl) ?_
          refine wk_Sp (v := plw (f at0) (nI i)) (As := [.int (f at0), .int (nI i)]) (rest := []) ⟨hx, hb, hml, hown, hts⟩ (c_X0_placesWith l (f at0) (nI i)) (va_cwS 2 hts gX0_passBox_X0_placesWith rfl rfl rfl (by decide +kernel) ⟨Nat.le_of_ble_eq_true rfl, Nat.le_of_ble_eq_true rfl⟩) rfl hl.1 rfl (Nat.le_of_ble_eq_true rfl) dX0_passBox_91 ⟨Nat.zero_le _, Nat.zero_le _⟩ ?_
          refine lv_iload hx hb dX0_passBox_94 (lv_at hl 8 rfl) ?_
          refine lv_iload hx hb dX0_passBox_96 (lv_at hl 1 rfl) ?_
          refine lv_iconst (v := nI 1) hx hb dX0_passBox_98 (by decide) ?_
          refine lv_ishr hx hb dX0_passBox_99 ?_
          refine wk_Sp (v := plw (f (at0 + 1)) ((nI i) >>> ((nI 1) &&& 31))) (As := [.int (f (at0 + 1)), .int ((nI i) >>> ((nI 1) &&& 31))]) (rest := [.int (plw (f at0) (nI i))]) ⟨hx, hb, hml, hown, hts⟩ (c_X0_placesWith l (f (at0 + 1)) ((nI i) >>> ((nI 1) &&& 31))) (va_cwS 2 hts gX0_passBox_X0_placesWith rfl rfl rfl (by decide +kernel) ⟨Nat.le_of_ble_eq_true rfl, Nat.le_of_ble_eq_true rfl⟩) rfl hl.1 rfl (Nat.le_of_ble_eq_true rfl) dX0_passBox_100 ⟨Nat.zero_le _, Nat.zero_le _⟩ ?_
          refine lv_iand hx hb dX0_passBox_103 ?_
          refine lv_iload hx hb dX0_passBox_104 (lv_at hl 9 rfl) ?_
          refine lv_iload hx hb dX0_passBox_106 (lv_at hl 1 rfl) ?_
          refine lv_iconst (v := nI 2) hx hb dX0_passBox_108 (by decide) ?_
          refine lv_ishr hx hb dX0_passBox_109 ?_
          refine wk_Sp (v := plw (f (at0 + 2)) ((nI i) >>> ((nI 2) &&& 31))) (As := [.int (f (at0 + 2)), .int ((nI i) >>> ((nI 2) &&& 31))]) (rest := [.int ((plw (f at0) (nI i)) &&& (plw (f (at0 + 1)) ((nI i) >>> ((nI 1) &&& 31))))]) ⟨hx, hb, hml, hown, hts⟩ (c_X0_placesWith l (f (at0 + 2)) ((nI i) >>> ((nI 2) &&& 31))) (va_cwS 2 hts gX0_passBox_X0_placesWith rfl rfl rfl (by decide +kernel) ⟨Nat.le_of_ble_eq_true rfl, Nat.le_of_ble_eq_true rfl⟩) rfl hl.1 rfl (Nat.le_of_ble_eq_true rfl) dX0_passBox_110 ⟨Nat.zero_le _, Nat.zero_le _⟩ ?_
          refine lv_iand hx hb dX0_passBox_113 ?_
          refine lv_iload hx hb dX0_passBox_114 (lv_at hl 10 rfl) ?_
          refine lv_iload hx hb dX0_passBox_116 (lv_at hl 1 rfl) ?_
          refine lv_iconst (v := nI 3) hx hb dX0_passBox_118 (by decide) ?_
          refine lv_ishr hx hb dX0_passBox_119 ?_
          refine wk_Sp (v := plw (f (at0 + 3)) ((nI i) >>> ((nI 3) &&& 31))) (As := [.int (f (at0 + 3)), .int ((nI i) >>> ((nI 3) &&& 31))]) (rest := [.int (((plw (f at0) (nI i)) &&& (plw (f (at0 + 1)) ((nI i) >>> ((nI 1) &&& 31)))) &&& (plw (f (at0 + 2)) ((nI i) >>> ((nI 2) &&& 31))))]) ⟨hx, hb, hml, hown, hts⟩ (c_X0_placesWith l (f (at0 + 3)) ((nI i) >>> ((nI 3) &&& 31))) (va_cwS 2 hts gX0_passBox_X0_placesWith rfl rfl rfl (by decide +kernel) ⟨Nat.le_of_ble_eq_true rfl, Nat.le_of_ble_eq_true rfl⟩) rfl hl.1 rfl (Nat.le_of_ble_eq_true rfl) dX0_passBox_120 ⟨Nat.zero_le _, Nat.zero_le _⟩ ?_
          refine lv_iand hx hb dX0_passBox_123 ?_
          refine wk_i (y := pbPl 0 wh (ld4 f at0) i) (rfl) ?_
          refine lv_istore (lv' := [(16, .int (pbPl 0 wh (ld4 f at0) i)), (15, .int (TB ((wh * 16) + i))), (14, .int (nI i)), (13, .int (TB ((wh * 16) + i))), (0, .ref w), (1, .int (nI at0)), (2, .int (nI wh)), (3, .int (nI 0)), (4, .int (f at0)), (5, .int (f (at0 + 1))), (6, .int (f (at0 + 2))), (7, .int (f (at0 + 3))), (8, .int ((pbN 0 wh (ld4 f at0) i).1)), (9, .int ((pbN 0 wh (ld4 f at0) i).2.1)), (10, .int ((pbN 0 wh (ld4 f at0) i).2.2.1)), (11, .int ((pbN 0 wh (ld4 f at0) i).2.2.2)), (12, .int (nI i))]) hx hb dX0_passBox_124 hl (by decide) rfl (fun ls hl => ?_)
          refine lv_iload hx hb dX0_passBox_126 (lv_at hl 12 rfl) ?_
          refine lv_iload hx hb dX0_passBox_128 (lv_at hl 0 rfl) ?_
          refine lv_iload hx hb dX0_passBox_130 (lv_at hl 1 rfl) ?_
          refine wk_Sp (v := lbe (TB ((wh * 16) + i))) (As := [.int (TB ((wh * 16) + i))]) (rest := [.int (pbPl 0 wh (ld4 f at0) i), .int ((pbN 0 wh (ld4 f at0) i).1)]) ⟨hx, hb, hml, hown, hts⟩ (c_X0_lowestBitEverywhere l (TB ((wh * 16) + i))) (va_cwS 1 hts gX0_passBox_X0_lowestBitEverywhere rfl rfl rfl (by decide +kernel) ⟨Nat.le_of_ble_eq_true rfl, Nat.le_of_ble_eq_true rfl⟩) rfl hl.1 rfl (Nat.le_of_ble_eq_true rfl) dX0_passBox_132 ⟨Nat.zero_le _, Nat.zero_le _⟩ ?_
          refine lv_iand hx hb dX0_passBox_135 ?_
          refine lv_ior hx hb dX0_passBox_136 ?_
          refine wk_i (y := (pbN 0 wh (ld4 f at0) (i + 1)).1) (rfl) ?_
          refine lv_istore (lv' := [(8, .int ((pbN 0 wh (ld4 f at0) (i + 1)).1)), (16, .int (pbPl 0 wh (ld4 f at0) i)), (15, .int (TB ((wh * 16) + i))), (14, .int (nI i)), (13, .int (TB ((wh * 16) + i))), (0, .ref w), (1, .int (nI at0)), (2, .int (nI wh)), (3, .int (nI 0)), (4, .int (f at0)), (5, .int (f (at0 + 1))), (6, .int (f (at0 + 2))), (7, .int (f (at0 + 3))), (9, .int ((pbN 0 wh (ld4 f at0) i).2.1)), (10, .int ((pbN 0 wh (ld4 f at0) i).2.2.1)), (11, .int ((pbN 0 wh (ld4 f at0) i).2.2.2)), (12, .int (nI i))]) hx hb dX0_passBox_137 hl (by decide) rfl (fun ls hl => ?_)
          refine lv_iload hx hb dX0_passBox_139 (lv_at hl 13 rfl) ?_
          refine lv_iload hx hb dX0_passBox_141 (lv_at hl 1 rfl) ?_
          refine lv_iload hx hb dX0_passBox_143 (lv_at hl 2 rfl) ?_
          refine lv_iconst (v := nI 1) hx hb dX0_passBox_145 (by decide) ?_
          refine lv_ishr hx hb dX0_passBox_146 ?_
          refine wk_Sp (v := lbe ((TB ((wh * 16) + i)) >>> ((nI 1) &&& 31))) (As := [.int ((TB ((wh * 16) + i)) >>> ((nI 1) &&& 31))]) (rest := [.int (pbPl 0 wh (ld4 f at0) i), .int ((pbN 0 wh (ld4 f at0) i).2.1)]) ⟨hx, hb, hml, hown, hts⟩ (c_X0_lowestBitEverywhere l ((TB ((wh * 16) + i)) >>> ((nI 1) &&& 31))) (va_cwS 1 hts gX0_passBox_X0_lowestBitEverywhere rfl rfl rfl (by decide +kernel) ⟨Nat.le_of_ble_eq_true rfl, Nat.le_of_ble_eq_true rfl⟩) rfl hl.1 rfl (Nat.le_of_ble_eq_true rfl) dX0_passBox_147 ⟨Nat.zero_le _, Nat.zero_le _⟩ ?_
          refine lv_iand hx hb dX0_passBox_150 ?_
          refine lv_ior hx hb dX0_passBox_151 ?_
          refine wk_i (y := (pbN 0 wh (ld4 f at0) (i + 1)).2.1) (rfl) ?_
          refine lv_istore (lv' := [(9, .int ((pbN 0 wh (ld4 f at0) (i + 1)).2.1)), (8, .int ((pbN 0 wh (ld4 f at0) (i + 1)).1)), (16, .int (pbPl 0 wh (ld4 f at0) i)), (15, .int (TB ((wh * 16) + i))), (14, .int (nI i)), (13, .int (TB ((wh * 16) + i))), (0, .ref w), (1, .int (nI at0)), (2, .int (nI wh)), (3, .int (nI 0)), (4, .int (f at0)), (5, .int (f (at0 + 1))), (6, .int (f (at0 + 2))), (7, .int (f (at0 + 3))), (10, .int ((pbN 0 wh (ld4 f at0) i).2.2.1)), (11, .int ((pbN 0 wh (ld4 f at0) i).2.2.2)), (12, .int (nI i))]) hx hb dX0_passBox_152 hl (by decide) rfl (fun ls hl => ?_)
          refine lv_iload hx hb dX0_passBox_154 (lv_at hl 14 rfl) ?_
          refine lv_iload hx hb dX0_passBox_156 (lv_at hl 2 rfl) ?_
          refine lv_iload hx hb dX0_passBox_158 (lv_at hl 3 rfl) ?_
          refine lv_iconst (v := nI 2) hx hb dX0_passBox_160 (by decide) ?_
          refine lv_ishr hx hb dX0_passBox_161 ?_
          refine wk_Sp (v := lbe ((TB ((wh * 16) + i)) >>> ((nI 2) &&& 31))) (As := [.int ((TB ((wh * 16) + i)) >>> ((nI 2) &&& 31))]) (rest := [.int (pbPl 0 wh (ld4 f at0) i), .int ((pbN 0 wh (ld4 f at0) i).2.2.1)]) ⟨hx, hb, hml, hown, hts⟩ (c_X0_lowestBitEverywhere l ((TB ((wh * 16) + i)) >>> ((nI 2) &&& 31))) (va_cwS 1 hts gX0_passBox_X0_lowestBitEverywhere rfl rfl rfl (by decide +kernel) ⟨Nat.le_of_ble_eq_true rfl, Nat.le_of_ble_eq_true rfl⟩) rfl hl.1 rfl (Nat.le_of_ble_eq_true rfl) dX0_passBox_162 ⟨Nat.zero_le _, Nat.zero_le _⟩ ?_
          refine lv_iand hx hb dX0_passBox_165 ?_
          refine lv_ior hx hb dX0_passBox_166 ?_
          refine wk_i (y := (pbN 0 wh (ld4 f at0) (i + 1)).2.2.1) (rfl) ?_
          refine lv_istore (lv' := [(10, .int ((pbN 0 wh (ld4 f at0) (i + 1)).2.2.1)), (9, .int ((pbN 0 wh (ld4 f at0) (i + 1)).2.1)), (8, .int ((pbN 0 wh (ld4 f at0) (i + 1)).1)), (16, .int (pbPl 0 wh (ld4 f at0) i)), (15, .int (TB ((wh * 16) + i))), (14, .int (nI i)), (13, .int (TB ((wh * 16) + i))), (0, .ref w), (1, .int (nI at0)), (2, .int (nI wh)), (3, .int (nI 0)), (4, .int (f at0)), (5, .int (f (at0 + 1))), (6, .int (f (at0 + 2))), (7, .int (f (at0 + 3))), (11, .int ((pbN 0 wh (ld4 f at0) i).2.2.2)), (12, .int (nI i))]) hx hb dX0_passBox_167 hl (by decide) rfl (fun ls hl => ?_)
          refine lv_iload hx hb dX0_passBox_169 (lv_at hl 15 rfl) ?_
          refine lv_iload hx hb dX0_passBox_171 (lv_at hl 3 rfl) ?_
          refine lv_iload hx hb dX0_passBox_173 (lv_at hl 4 rfl) ?_
          refine lv_iconst (v := nI 3) hx hb dX0_passBox_175 (by decide) ?_
          refine lv_ishr hx hb dX0_passBox_176 ?_
          refine wk_Sp (v := lbe ((TB ((wh * 16) + i)) >>> ((nI 3) &&& 31))) (As := [.int ((TB ((wh * 16) + i)) >>> ((nI 3) &&& 31))]) (rest := [.int (pbPl 0 wh (ld4 f at0) i), .int ((pbN 0 wh (ld4 f at0) i).2.2.2)]) ⟨hx, hb, hml, hown, hts⟩ (c_X0_lowestBitEverywhere l ((TB ((wh * 16) + i)) >>> ((nI 3) &&& 31))) (va_cwS 1 hts gX0_passBox_X0_lowestBitEverywhere rfl rfl rfl (by decide +kernel) ⟨Nat.le_of_ble_eq_true rfl, Nat.le_of_ble_eq_true rfl⟩) rfl hl.1 rfl (Nat.le_of_ble_eq_true rfl) dX0_passBox_177 ⟨Nat.zero_le _, Nat.zero_le _⟩ ?_
          refine lv_iand hx hb dX0_passBox_180 ?_
          refine lv_ior hx hb dX0_passBox_181 ?_
          refine wk_i (y := (pbN 0 wh (ld4 f at0) (i + 1)).2.2.2) (rfl) ?_
          refine lv_istore (lv' := [(11, .int ((pbN 0 wh (ld4 f at0) (i + 1)).2.2.2)), (10, .int ((pbN 0 wh (ld4 f at0) (i + 1)).2.2.1)), (9, .int ((pbN 0 wh (ld4 f at0) (i + 1)).2.1)), (8, .int ((pbN 0 wh (ld4 f at0) (i + 1)).1)), (16, .int (pbPl 0 wh (ld4 f at0) i)), (15, .int (TB ((wh * 16) + i))), (14, .int (nI i)), (13, .int (TB ((wh * 16) + i))), (0, .ref w), (1, .int (nI at0)), (2, .int (nI wh)), (3, .int (nI 0)), (4, .int (f at0)), (5, .int (f (at0 + 1))), (6, .int (f (at0 + 2))), (7, .int (f (at0 + 3))), (12, .int (nI i))]) hx hb dX0_passBox_182 hl (by decide) rfl (fun ls hl => ?_)
          refine lv_iinc (v := nI (i + 1)) (lv' := [(12, .int (nI (i + 1))), (11, .int ((pbN 0 wh (ld4 f at0) (i + 1)).2.2.2)), (10, .int ((pbN 0 wh (ld4 f at0) (i + 1)).2.2.1)), (9, .int ((pbN 0 wh (ld4 f at0) (i + 1)).2.1)), (8, .int ((pbN 0 wh (ld4 f at0) (i + 1)).1)), (16, .int (pbPl 0 wh (ld4 f at0) i)), (15, .int (TB ((wh * 16) + i))), (14, .int (nI i)), (13, .int (TB ((wh * 16) + i))), (0, .ref w), (1, .int (nI at0)), (2, .int (nI wh)), (3, .int (nI 0)), (4, .int (f at0)), (5, .int (f (at0 + 1))), (6, .int (f (at0 + 2))), (7, .int (f (at0 + 3)))]) hx hb dX0_passBox_184 hl (k := 16) rfl (wk_inc i (by decide)) (by decide) rfl (fun ls hl => ?_)
          refine lv_goto (tgt := 41) hx hb dX0_passBox_187 (by decide) ?_
          exact ih (i + 1) (by omega) (by omega) _ _ hP hD hS ls (lv_sub hl [9, 10, 11, 12, 13, 14, 15, 16, 4, 3, 2, 1, 0] rfl)
  refine lv_aload_n hx hb dX0_passBox_0 rfl (lv_at hl 0 rfl) ?_
  refine lv_iload_n hx hb dX0_passBox_1 rfl (lv_at hl 1 rfl) ?_
  refine wk_iald hx hb hK hP 0 0 rfl rfl (k := at0) (by omega) (by omega) dX0_passBox_2 ?_
  refine lv_istore (lv' := [(4, .int (f at0)), (0, .ref w), (1, .int (nI at0)), (2, .int (nI wh)), (3, .int (nI 0))]) hx hb dX0_passBox_3 hl (by decide) rfl (fun ls hl => ?_)
  refine lv_aload_n hx hb dX0_passBox_5 rfl (lv_at hl 1 rfl) ?_
  refine lv_iload_n hx hb dX0_passBox_6 rfl (lv_at hl 2 rfl) ?_
  refine lv_iconst (v := nI 1) hx hb dX0_passBox_7 (by decide) ?_
  refine wk_iaddN hx hb (a := at0) (b := 1) dX0_passBox_8 ?_
  refine wk_iald hx hb hK hP 0 0 rfl rfl (k := at0 + 1) (by omega) (by omega) dX0_passBox_9 ?_
  refine lv_istore (lv' := [(5, .int (f (at0 + 1))), (4, .int (f at0)), (0, .ref w), (1, .int (nI at0)), (2, .int (nI wh)), (3, .int (nI 0))]) hx hb dX0_passBox_10 hl (by decide) rfl (fun ls hl => ?_)
  refine lv_aload_n hx hb dX0_passBox_12 rfl (lv_at hl 2 rfl) ?_
  refine lv_iload_n hx hb dX0_passBox_13 rfl (lv_at hl 3 rfl) ?_
  refine lv_iconst (v := nI 2) hx hb dX0_passBox_14 (by decide) ?_
  refine wk_iaddN hx hb (a := at0) (b := 2) dX0_passBox_15 ?_
  refine wk_iald hx hb hK hP 0 0 rfl rfl (k := at0 + 2) (by omega) (by omega) dX0_passBox_16 ?_
  refine lv_istore (lv' := [(6, .int (f (at0 + 2))), (5, .int (f (at0 + 1))), (4, .int (f at0)), (0, .ref w), (1, .int (nI at0)), (2, .int (nI wh)), (3, .int (nI 0))]) hx hb dX0_passBox_17 hl (by decide) rfl (fun ls hl => ?_)
  refine lv_aload_n hx hb dX0_passBox_19 rfl (lv_at hl 3 rfl) ?_
  refine lv_iload_n hx hb dX0_passBox_20 rfl (lv_at hl 4 rfl) ?_
  refine lv_iconst (v := nI 3) hx hb dX0_passBox_21 (by decide) ?_
  refine wk_iaddN hx hb (a := at0) (b := 3) dX0_passBox_22 ?_
  refine wk_iald hx hb hK hP 0 0 rfl rfl (k := at0 + 3) (by omega) (by omega) dX0_passBox_23 ?_
  refine lv_istore (lv' := [(7, .int (f (at0 + 3))), (6, .int (f (at0 + 2))), (5, .int (f (at0 + 1))), (4, .int (f at0)), (0, .ref w), (1, .int (nI at0)), (2, .int (nI wh)), (3, .int (nI 0))]) hx hb dX0_passBox_24 hl (by decide) rfl (fun ls hl => ?_)
  refine lv_iconst (v := nI 0) hx hb dX0_passBox_26 (by decide) ?_
  refine lv_istore (lv' := [(8, .int (nI 0)), (7, .int (f (at0 + 3))), (6, .int (f (at0 + 2))), (5, .int (f (at0 + 1))), (4, .int (f at0)), (0, .ref w), (1, .int (nI at0)), (2, .int (nI wh)), (3, .int (nI 0))]) hx hb dX0_passBox_27 hl (by decide) rfl (fun ls hl => ?_)
  refine lv_iconst (v := nI 0) hx hb dX0_passBox_29 (by decide) ?_
  refine lv_istore (lv' := [(9, .int (nI 0)), (8, .int (nI 0)), (7, .int (f (at0 + 3))), (6, .int (f (at0 + 2))), (5, .int (f (at0 + 1))), (4, .int (f at0)), (0, .ref w), (1, .int (nI at0)), (2, .int (nI wh)), (3, .int (nI 0))]) hx hb dX0_passBox_30 hl (by decide) rfl (fun ls hl => ?_)
  refine lv_iconst (v := nI 0) hx hb dX0_passBox_32 (by decide) ?_
  refine lv_istore (lv' := [(10, .int (nI 0)), (9, .int (nI 0)), (8, .int (nI 0)), (7, .int (f (at0 + 3))), (6, .int (f (at0 + 2))), (5, .int (f (at0 + 1))), (4, .int (f at0)), (0, .ref w), (1, .int (nI at0)), (2, .int (nI wh)), (3, .int (nI 0))]) hx hb dX0_passBox_33 hl (by decide) rfl (fun ls hl => ?_)
  refine lv_iconst (v := nI 0) hx hb dX0_passBox_35 (by decide) ?_
  refine lv_istore (lv' := [(11, .int (nI 0)), (10, .int (nI 0)), (9, .int (nI 0)), (8, .int (nI 0)), (7, .int (f (at0 + 3))), (6, .int (f (at0 + 2))), (5, .int (f (at0 + 1))), (4, .int (f at0)), (0, .ref w), (1, .int (nI at0)), (2, .int (nI wh)), (3, .int (nI 0))]) hx hb dX0_passBox_36 hl (by decide) rfl (fun ls hl => ?_)
  refine lv_iconst (v := nI 0) hx hb dX0_passBox_38 (by decide) ?_
  refine lv_istore (lv' := [(12, .int (nI 0)), (11, .int (nI 0)), (10, .int (nI 0)), (9, .int (nI 0)), (8, .int (nI 0)), (7, .int (f (at0 + 3))), (6, .int (f (at0 + 2))), (5, .int (f (at0 + 1))), (4, .int (f at0)), (0, .ref w), (1, .int (nI at0)), (2, .int (nI wh)), (3, .int (nI 0))]) hx hb dX0_passBox_39 hl (by decide) rfl (fun ls hl => ?_)
  exact lp 17 0 (by omega) (by omega) _ _ hP hD hS ls (lv_sub hl [9, 10, 11, 12, 8, 7, 6, 5, 4, 3, 2, 1, 0] rfl)
set_option maxHeartbeats 4000000 in
set_option maxRecDepth 100000 in
theorem c_X0_passBox1 (l : Launch) (D : va_G) (cI : ClassId) (tb : Nat) (sz : Nat) (w at0 wh n : Nat) (f : Nat → Int32) (h1 : at0 + 4 ≤ n) (h2 : wh < 8) (h3 : n < 2 ^ 31) : Met l yX0_passBox wsX0_passBox ({ frames := 2, cells := 0, slots := 0, locals := 41 }) (va_Pc [.ref w, .int (nI at0), .int (nI wh), .int (nI 1)] (fun U => PW D [(cI, .int)] [(w, .inl (cI, n, .inl f))] sz U ∧ bxs tb (va_A [(w, .inl (cI, n, .inl f))] sz) U U.heap)) (va_Qv (fun _ : Unit => True) (fun _ => BW D [(cI, .int)] (va_A [(w, .inl (cI, n, .inl f))] sz) [(w, .inl (cI, n, .inl (st4 f at0 (cBox 1 wh (ld4 f at0)))))]) (va_A [(w, .inl (cI, n, .inl f))] sz)) 0 0 (va_A [(w, .inl (cI, n, .inl f))] sz) := by
  refine Met.ofW (cc := cX0_passBox) (maxL := 17) (ret := none) (by decide) rfl ?_
  intro p e s m args below meth c s₁ B hml hv
  obtain ⟨rfl, ⟨hsz, hP, hK, hD0⟩, hbx⟩ := hv
  have hx := B.exec
  have hb := B.bytes
  have hr := B.returns
  have hts := atoms_spec (ws := wsX0_passBox) B.pre
  have hown : s.vm.findClass RX0 = some m.cls := findClass_of_methodNamed B.named
  have hlocks := B.notSynchronized
  subst hsz
  have hD := hD0.self (sz := s.heap.size)
  generalize hAe : va_A [(w, .inl (cI, n, .inl f))] s.heap.size = A at hbx hD ⊢
  have hA : ∀ q : Nat, s.heap.size ≤ q → A q := fun q h => by rw [← hAe]; exact Or.inr h
  have hS : va_S A s.heap s.heap [] := va_S.rf
  have hl := lv_entry ([.ref w, .int (nI at0), .int (nI wh), .int (nI 1)]) (n := 17) (Nat.le_of_ble_eq_true rfl)
  rw [lg_entry_eq]
  generalize (lg_sl ([.ref w, .int (nI at0), .int (nI wh), .int (nI 1)]) ++ List.replicate (17 - (lg_sl ([.ref w, .int (nI at0), .int (nI wh), .int (nI 1)])).length) Slot.unset).toArray = ls at hl ⊢
  have hl : lv_has ls 17 [(0, .ref w), (1, .int (nI at0)), (2, .int (nI wh)), (3, .int (nI 1))] := hl
  have lp : ∀ (fu : Nat) (i : Nat), i ≤ 16 → 16 + 1 ≤ i + fu → ∀ (H : Heap) (locs : List Loc), va_P D vwCl [(w, .inl (cI, n, .inl f))] H → va_D A [(w, .inl (cI, n, .inl f))] → va_S A s.heap H locs → ∀ (ls : Array Slot), lv_has ls 17 [(0, .ref w), (1, .int (nI at0)), (2, .int (nI wh)), (3, .int (nI 1)), (4, .int (f at0)), (5, .int (f (at0 + 1))), (6, .int (f (at0 + 2))), (7, .int (f (at0 + 3))), (8, .int ((pbN 1 wh (ld4 f at0) i).1)), (9, .int ((pbN 1 wh (ld4 f at0) i).2.1)), (10, .int ((pbN 1 wh (ld4 f at0) i).2.2.1)), (11, .int ((pbN 1 wh (ld4 f at0) i).2.2.2)), (12, .int (nI i))] → W p l e ((headSpec wsX0_passBox ({ frames := 2, cells := 0, slots := 0, locals := 41 })).room) s m ([.ref w, .int (nI at0), .int (nI wh), .int (nI 1)] : List Value).toArray below meth c H locs 0 0 (MQ below (va_Qv (fun _ : Unit => True) (fun _ => BW D [(cI, .int)] A [(w, .inl (cI, n, .inl (st4 f at0 (cBox 1 wh (ld4 f at0)))))]) A) ([.ref w, .int (nI at0), .int (nI wh), .int (nI 1)] : List Value).toArray s 0 0 (A)) (F0 m 41 ls []) := by
    intro fu
    induction fu with
      | zero => intro i hi hfu; exact absurd hfu (by omega)
      | succ fu ih =>
        intro i hi hfu H locs hP hD hS ls hl
        refine lv_iload hx hb dX0_passBox_41 (lv_at hl 12 rfl) ?_
        refine lv_bipush (v := nI 16) hx hb dX0_passBox_43 (by decide) ?_
        refine wk_geN (tgt := 190) hx hb (a := i) (b := 16) (by omega) (by decide) dX0_passBox_45 (by decide) (fun c45 => ?_) (fun c45 => ?_)
        · obtain rfl : i = 16 := by omega
          refine lv_aload_n hx hb dX0_passBox_190 rfl (lv_at hl 0 rfl) ?_
          refine lv_iload_n hx hb dX0_passBox_191 rfl (lv_at hl 1 rfl) ?_
          refine lv_iload hx hb dX0_passBox_192 (lv_at hl 8 rfl) ?_
          refine wk_iast hx hb hK hP hD hS 0 0 rfl rfl (k := at0) (x := (pbN 1 wh (ld4 f at0) 16).1) (by omega) (by omega) dX0_passBox_194 (fun H locs hP hD hS => ?_)
          have hP : va_P D vwCl [(w, .inl (cI, n, .inl (upd f at0 ((pbN 1 wh (ld4 f at0) 16).1))))] H := hP
          have hD : va_D A [(w, .inl (cI, n, .inl (upd f at0 ((pbN 1 wh (ld4 f at0) 16).1))))] := hD
          refine lv_aload_n hx hb dX0_passBox_195 rfl (lv_at hl 0 rfl) ?_
          refine lv_iload_n hx hb dX0_passBox_196 rfl (lv_at hl 1 rfl) ?_
          refine lv_iconst (v := nI 1) hx hb dX0_passBox_197 (by decide) ?_
          refine wk_iaddN hx hb (a := at0) (b := 1) dX0_passBox_198 ?_
          refine lv_iload hx hb dX0_passBox_199 (lv_at hl 9 rfl) ?_
          refine wk_iast hx hb hK hP hD hS 0 0 rfl rfl (k := at0 + 1) (x := (pbN 1 wh (ld4 f at0) 16).2.1) (by omega) (by omega) dX0_passBox_201 (fun H locs hP hD hS => ?_)
          have hP : va_P D vwCl [(w, .inl (cI, n, .inl (upd (upd f at0 ((pbN 1 wh (ld4 f at0) 16).1)) (at0 + 1) ((pbN 1 wh (ld4 f at0) 16).2.1))))] H := hP
          have hD : va_D A [(w, .inl (cI, n, .inl (upd (upd f at0 ((pbN 1 wh (ld4 f at0) 16).1)) (at0 + 1) ((pbN 1 wh (ld4 f at0) 16).2.1))))] := hD
          refine lv_aload_n hx hb dX0_passBox_202 rfl (lv_at hl 0 rfl) ?_
          refine lv_iload_n hx hb dX0_passBox_203 rfl (lv_at hl 1 rfl) ?_
          refine lv_iconst (v := nI 2) hx hb dX0_passBox_204 (by decide) ?_
          refine wk_iaddN hx hb (a := at0) (b := 2) dX0_passBox_205 ?_
          refine lv_iload hx hb dX0_passBox_206 (lv_at hl 10 rfl) ?_
          refine wk_iast hx hb hK hP hD hS 0 0 rfl rfl (k := at0 + 2) (x := (pbN 1 wh (ld4 f at0) 16).2.2.1) (by omega) (by omega) dX0_passBox_208 (fun H locs hP hD hS => ?_)
          have hP : va_P D vwCl [(w, .inl (cI, n, .inl (upd (upd (upd f at0 ((pbN 1 wh (ld4 f at0) 16).1)) (at0 + 1) ((pbN 1 wh (ld4 f at0) 16).2.1)) (at0 + 2) ((pbN 1 wh (ld4 f at0) 16).2.2.1))))] H := hP
          have hD : va_D A [(w, .inl (cI, n, .inl (upd (upd (upd f at0 ((pbN 1 wh (ld4 f at0) 16).1)) (at0 + 1) ((pbN 1 wh (ld4 f at0) 16).2.1)) (at0 + 2) ((pbN 1 wh (ld4 f at0) 16).2.2.1))))] := hD
          refine lv_aload_n hx hb dX0_passBox_209 rfl (lv_at hl 0 rfl) ?_
          refine lv_iload_n hx hb dX0_passBox_210 rfl (lv_at hl 1 rfl) ?_
          refine lv_iconst (v := nI 3) hx hb dX0_passBox_211 (by decide) ?_
          refine wk_iaddN hx hb (a := at0) (b := 3) dX0_passBox_212 ?_
          refine lv_iload hx hb dX0_passBox_213 (lv_at hl 11 rfl) ?_
          refine wk_iast hx hb hK hP hD hS 0 0 rfl rfl (k := at0 + 3) (x := (pbN 1 wh (ld4 f at0) 16).2.2.2) (by omega) (by omega) dX0_passBox_215 (fun H locs hP hD hS => ?_)
          have hP : va_P D vwCl [(w, .inl (cI, n, .inl (upd (upd (upd (upd f at0 ((pbN 1 wh (ld4 f at0) 16).1)) (at0 + 1) ((pbN 1 wh (ld4 f at0) 16).2.1)) (at0 + 2) ((pbN 1 wh (ld4 f at0) 16).2.2.1)) (at0 + 3) ((pbN 1 wh (ld4 f at0) 16).2.2.2))))] H := hP
          have hD : va_D A [(w, .inl (cI, n, .inl (upd (upd (upd (upd f at0 ((pbN 1 wh (ld4 f at0) 16).1)) (at0 + 1) ((pbN 1 wh (ld4 f at0) 16).2.1)) (at0 + 2) ((pbN 1 wh (ld4 f at0) 16).2.2.1)) (at0 + 3) ((pbN 1 wh (ld4 f at0) 16).2.2.2))))] := hD
          exact W.vret hx hb hr (fun t ht hW => ⟨⟨(), rfl, trivial, by rw [ht]; exact hP, va_K.moved hW.alike hK, hD⟩, hS.F ht⟩) hS.2.2 dX0_passBox_216
        · refine va_gets (C := "SlicedCipher") (n := "BOXES") (d := "[I") (v := .ref tb) hx hb hbx.1 hS hown (hts (.fieldLink RX0 83 "SlicedCipher" "BOXES" "[I") (by decide +kernel)) (fun _ h9 => h9) dX0_passBox_48 ?_
          refine lv_iload_n hx hb dX0_passBox_51 rfl (lv_at hl 2 rfl) ?_
          refine lv_bipush (v := nI 16) hx hb dX0_passBox_52 (by decide) ?_
          refine wk_imulN hx hb (a := wh) (b := 16) dX0_passBox_54 ?_
          refine lv_iload hx hb dX0_passBox_55 (lv_at hl 12 rfl) ?_
          refine wk_iaddN hx hb (a := wh * 16) (b := i) dX0_passBox_57 ?_
          refine wk_tbl hx hb hbx.2 hS (k := (wh * 16) + i) (by omega) dX0_passBox_58 ?_
          refine lv_istore (lv' := [(13, .int (TB ((wh * 16) + i))), (0, .ref w), (1, .int (nI at0)), (2, .int (nI wh)), (3, .int (nI 1)), (4, .int (f at0)), (5, .int (f (at0 + 1))), (6, .int (f (at0 + 2))), (7, .int (f (at0 + 3))), (8, .int ((pbN 1 wh (ld4 f at0) i).1)), (9, .int ((pbN 1 wh (ld4 f at0) i).2.1)), (10, .int ((pbN 1 wh (ld4 f at0) i).2.2.1)), (11, .int ((pbN 1 wh (ld4 f at0) i).2.2.2)), (12, .int (nI i))]) hx hb dX0_passBox_59 hl (by decide) rfl (fun ls hl => ?_)
          refine lv_iload_n hx hb dX0_passBox_61 rfl (lv_at hl 4 rfl) ?_
          refine wk_eq0N (tgt := 70) hx hb (a := 1) (by decide) dX0_passBox_62 (by decide) (fun c62 => absurd c62 (by decide)) (fun c62 => ?_)
          refine lv_iload hx hb dX0_passBox_65 (lv_at hl 0 rfl) ?_
          refine lv_goto (tgt := 72) hx hb dX0_passBox_67 (by decide) ?_
          refine lv_istore (lv' := [(14, .int (TB ((wh * 16) + i))), (13, .int (TB ((wh * 16) + i))), (0, .ref w), (1, .int (nI at0)), (2, .int (nI wh)), (3, .int (nI 1)), (4, .int (f at0)), (5, .int (f (at0 + 1))), (6, .int (f (at0 + 2))), (7, .int (f (at0 + 3))), (8, .int ((pbN 1 wh (ld4 f at0) i).1)), (9, .int ((pbN 1 wh (ld4 f at0) i).2.1)), (10, .int ((pbN 1 wh (ld4 f at0) i).2.2.1)), (11, .int ((pbN 1 wh (ld4 f at0) i).2.2.2)), (12, .int (nI i))]) hx hb dX0_passBox_72 hl (by decide) rfl (fun ls hl => ?_)
          refine lv_iload_n hx hb dX0_passBox_74 rfl (lv_at hl 5 rfl) ?_
          refine wk_eq0N (tgt := 83) hx hb (a := 1) (by decide) dX0_passBox_75 (by decide) (fun c75 => absurd c75 (by decide)) (fun c75 => ?_)
          refine lv_iload hx hb dX0_passBox_78 (lv_at hl 14 rfl) ?_
          refine lv_goto (tgt := 85) hx hb dX0_passBox_80 (by decide) ?_
          refine lv_istore (lv' := [(15, .int (nI i)), (14, .int (TB ((wh * 16) + i))), (13, .int (TB ((wh * 16) + i))), (0, .ref w), (1, .int (nI at0)), (2, .int (nI wh)), (3, .int (nI 1)), (4, .int (f at0)), (5, .int (f (at0 + 1))), (6, .int (f (at0 + 2))), (7, .int (f (at0 + 3))), (8, .int ((pbN 1 wh (ld4 f at0) i).1)), (9, .int ((pbN 1 wh (ld4 f at0) i).2.1)), (10, .int ((pbN 1 wh (ld4 f at0) i).2.2.1)), (11, .int ((pbN 1 wh (ld4 f at0) i).2.2.2)), (12, .int (nI i))]) hx hb dX0_passBox_85 hl (by decide) rfl (fun ls hl => ?_)
          refine lv_iload hx hb dX0_passBox_87 (lv_at hl 7 rfl) ?_
          refine lv_iload hx hb dX0_passBox_89 (lv_at hl 1 rfl) ?_
          refine wk_Sp (v := plw (f at0) (TB ((wh * 16) + i))) (As := [.int (f at0), .int (TB ((wh * 16) + i))]) (rest := []) ⟨hx, hb, hml, hown, hts⟩ (c_X0_placesWith l (f at0) (TB ((wh * 16) + i))) (va_cwS 2 hts gX0_passBox_X0_placesWith rfl rfl rfl (by decide +kernel) ⟨Nat.le_of_ble_eq_true rfl, Nat.le_of_ble_eq_true rfl⟩) rfl hl.1 rfl (Nat.le_of_ble_eq_true rfl) dX0_passBox_91 ⟨Nat.zero_le _, Nat.zero_le _⟩ ?_
          refine lv_iload hx hb dX0_passBox_94 (lv_at hl 8 rfl) ?_
          refine lv_iload hx hb dX0_passBox_96 (lv_at hl 1 rfl) ?_
          refine lv_iconst (v := nI 1) hx hb dX0_passBox_98 (by decide) ?_
          refine lv_ishr hx hb dX0_passBox_99 ?_
          refine wk_Sp (v := plw (f (at0 + 1)) ((TB ((wh * 16) + i)) >>> ((nI 1) &&& 31))) (As := [.int (f (at0 + 1)), .int ((TB ((wh * 16) + i)) >>> ((nI 1) &&& 31))]) (rest := [.int (plw (f at0) (TB ((wh * 16) + i)))]) ⟨hx, hb, hml, hown, hts⟩ (c_X0_placesWith l (f (at0 + 1)) ((TB ((wh * 16) + i)) >>> ((nI 1) &&& 31))) (va_cwS 2 hts gX0_passBox_X0_placesWith rfl rfl rfl (by decide +kernel) ⟨Nat.le_of_ble_eq_true rfl, Nat.le_of_ble_eq_true rfl⟩) rfl hl.1 rfl (Nat.le_of_ble_eq_true rfl) dX0_passBox_100 ⟨Nat.zero_le _, Nat.zero_le _⟩ ?_
          refine lv_iand hx hb dX0_passBox_103 ?_
          refine lv_iload hx hb dX0_passBox_104 (lv_at hl 9 rfl) ?_
          refine lv_iload hx hb dX0_passBox_106 (lv_at hl 1 rfl) ?_
          refine lv_iconst (v := nI 2) hx hb dX0_passBox_108 (by decide) ?_
          refine lv_ishr hx hb dX0_passBox_109 ?_
          refine wk_Sp (v := plw (f (at0 + 2)) ((TB ((wh * 16) + i)) >>> ((nI 2) &&& 31))) (As := [.int (f (at0 + 2)), .int ((TB ((wh * 16) + i)) >>> ((nI 2) &&& 31))]) (rest := [.int ((plw (f at0) (TB ((wh * 16) + i))) &&& (plw (f (at0 + 1)) ((TB ((wh * 16) + i)) >>> ((nI 1) &&& 31))))]) ⟨hx, hb, hml, hown, hts⟩ (c_X0_placesWith l (f (at0 + 2)) ((TB ((wh * 16) + i)) >>> ((nI 2) &&& 31))) (va_cwS 2 hts gX0_passBox_X0_placesWith rfl rfl rfl (by decide +kernel) ⟨Nat.le_of_ble_eq_true rfl, Nat.le_of_ble_eq_true rfl⟩) rfl hl.1 rfl (Nat.le_of_ble_eq_true rfl) dX0_passBox_110 ⟨Nat.zero_le _, Nat.zero_le _⟩ ?_
          refine lv_iand hx hb dX0_passBox_113 ?_
          refine lv_iload hx hb dX0_passBox_114 (lv_at hl 10 rfl) ?_
          refine lv_iload hx hb dX0_passBox_116 (lv_at hl 1 rfl) ?_
          refine lv_iconst (v := nI 3) hx hb dX0_passBox_118 (by decide) ?_
          refine lv_ishr hx hb dX0_passBox_119 ?_
          refine wk_Sp (v := plw (f (at0 + 3)) ((TB ((wh * 16) + i)) >>> ((nI 3) &&& 31))) (As := [.int (f (at0 + 3)), .int ((TB ((wh * 16) + i)) >>> ((nI 3) &&& 31))]) (rest := [.int (((plw (f at0) (TB ((wh * 16) + i))) &&& (plw (f (at0 + 1)) ((TB ((wh * 16) + i)) >>> ((nI 1) &&& 31)))) &&& (plw (f (at0 + 2)) ((TB ((wh * 16) + i)) >>> ((nI 2) &&& 31))))]) ⟨hx, hb, hml, hown, hts⟩ (c_X0_placesWith l (f (at0 + 3)) ((TB ((wh * 16) + i)) >>> ((nI 3) &&& 31))) (va_cwS 2 hts gX0_passBox_X0_placesWith rfl rfl rfl (by decide +kernel) ⟨Nat.le_of_ble_eq_true rfl, Nat.le_of_ble_eq_true rfl⟩) rfl hl.1 rfl (Nat.le_of_ble_eq_true rfl) dX0_passBox_120 ⟨Nat.zero_le _, Nat.zero_le _⟩ ?_
          refine lv_iand hx hb dX0_passBox_123 ?_
          refine wk_i (y := pbPl 1 wh (ld4 f at0) i) (rfl) ?_
          refine lv_istore (lv' := [(16, .int (pbPl 1 wh (ld4 f at0) i)), (15, .int (nI i)), (14, .int (TB ((wh * 16) + i))), (13, .int (TB ((wh * 16) + i))), (0, .ref w), (1, .int (nI at0)), (2, .int (nI wh)), (3, .int (nI 1)), (4, .int (f at0)), (5, .int (f (at0 + 1))), (6, .int (f (at0 + 2))), (7, .int (f (at0 + 3))), (8, .int ((pbN 1 wh (ld4 f at0) i).1)), (9, .int ((pbN 1 wh (ld4 f at0) i).2.1)), (10, .int ((pbN 1 wh (ld4 f at0) i).2.2.1)), (11, .int ((pbN 1 wh (ld4 f at0) i).2.2.2)), (12, .int (nI i))]) hx hb dX0_passBox_124 hl (by decide) rfl (fun ls hl => ?_)
          refine lv_iload hx hb dX0_passBox_126 (lv_at hl 12 rfl) ?_
          refine lv_iload hx hb dX0_passBox_128 (lv_at hl 0 rfl) ?_
          refine lv_iload hx hb dX0_passBox_130 (lv_at hl 1 rfl) ?_
          refine wk_Sp (v := lbe (nI i)) (As := [.int (nI i)]) (rest := [.int (pbPl 1 wh (ld4 f at0) i), .int ((pbN 1 wh (ld4 f at0) i).1)]) ⟨hx, hb, hml, hown, hts⟩ (c_X0_lowestBitEverywhere l (nI i)) (va_cwS 1 hts gX0_passBox_X0_lowestBitEverywhere rfl rfl rfl (by decide +kernel) ⟨Nat.le_of_ble_eq_true rfl, Nat.le_of_ble_eq_true rfl⟩) rfl hl.1 rfl (Nat.le_of_ble_eq_true rfl) dX0_passBox_132 ⟨Nat.zero_le _, Nat.zero_le _⟩ ?_
          refine lv_iand hx hb dX0_passBox_135 ?_
          refine lv_ior hx hb dX0_passBox_136 ?_
          refine wk_i (y := (pbN 1 wh (ld4 f at0) (i + 1)).1) (rfl) ?_
          refine lv_istore (lv' := [(8, .int ((pbN 1 wh (ld4 f at0) (i + 1)).1)), (16, .int (pbPl 1 wh (ld4 f at0) i)), (15, .int (nI i)), (14, .int (TB ((wh * 16) + i))), (13, .int (TB ((wh * 16) + i))), (0, .ref w), (1, .int (nI at0)), (2, .int (nI wh)), (3, .int (nI 1)), (4, .int (f at0)), (5, .int (f (at0 + 1))), (6, .int (f (at0 + 2))), (7, .int (f (at0 + 3))), (9, .int ((pbN 1 wh (ld4 f at0) i).2.1)), (10, .int ((pbN 1 wh (ld4 f at0) i).2.2.1)), (11, .int ((pbN 1 wh (ld4 f at0) i).2.2.2)), (12, .int (nI i))]) hx hb dX0_passBox_137 hl (by decide) rfl (fun ls hl => ?_)
          refine lv_iload hx hb dX0_passBox_139 (lv_at hl 13 rfl) ?_
          refine lv_iload hx hb dX0_passBox_141 (lv_at hl 1 rfl) ?_
          refine lv_iload hx hb dX0_passBox_143 (lv_at hl 2 rfl) ?_
          refine lv_iconst (v := nI 1) hx hb dX0_passBox_145 (by decide) ?_
          refine lv_ishr hx hb dX0_passBox_146 ?_
          refine wk_Sp (v := lbe ((nI i) >>> ((nI 1) &&& 31))) (As := [.int ((nI i) >>> ((nI 1) &&& 31))]) (rest := [.int (pbPl 1 wh (ld4 f at0) i), .int ((pbN 1 wh (ld4 f at0) i).2.1)]) ⟨hx, hb, hml, hown, hts⟩ (c_X0_lowestBitEverywhere l ((nI i) >>> ((nI 1) &&& 31))) (va_cwS 1 hts gX0_passBox_X0_lowestBitEverywhere rfl rfl rfl (by decide +kernel) ⟨Nat.le_of_ble_eq_true rfl, Nat.le_of_ble_eq_true rfl⟩) rfl hl.1 rfl (Nat.le_of_ble_eq_true rfl) dX0_passBox_147 ⟨Nat.zero_le _, Nat.zero_le _⟩ ?_
          refine lv_iand hx hb dX0_passBox_150 ?_
          refine lv_ior hx hb dX0_passBox_151 ?_
          refine wk_i (y := (pbN 1 wh (ld4 f at0) (i + 1)).2.1) (rfl) ?_
          refine lv_istore (lv' := [(9, .int ((pbN 1 wh (ld4 f at0) (i + 1)).2.1)), (8, .int ((pbN 1 wh (ld4 f at0) (i + 1)).1)), (16, .int (pbPl 1 wh (ld4 f at0) i)), (15, .int (nI i)), (14, .int (TB ((wh * 16) + i))), (13, .int (TB ((wh * 16) + i))), (0, .ref w), (1, .int (nI at0)), (2, .int (nI wh)), (3, .int (nI 1)), (4, .int (f at0)), (5, .int (f (at0 + 1))), (6, .int (f (at0 + 2))), (7, .int (f (at0 + 3))), (10, .int ((pbN 1 wh (ld4 f at0) i).2.2.1)), (11, .int ((pbN 1 wh (ld4 f at0) i).2.2.2)), (12, .int (nI i))]) hx hb dX0_passBox_152 hl (by decide) rfl (fun ls hl => ?_)
          refine lv_iload hx hb dX0_passBox_154 (lv_at hl 14 rfl) ?_
          refine lv_iload hx hb dX0_passBox_156 (lv_at hl 2 rfl) ?_
          refine lv_iload hx hb dX0_passBox_158 (lv_at hl 3 rfl) ?_
          refine lv_iconst (v := nI 2) hx hb dX0_passBox_160 (by decide) ?_
          refine lv_ishr hx hb dX0_passBox_161 ?_
          refine wk_Sp (v := lbe ((nI i) >>> ((nI 2) &&& 31))) (As := [.int ((nI i) >>> ((nI 2) &&& 31))]) (rest := [.int (pbPl 1 wh (ld4 f at0) i), .int ((pbN 1 wh (ld4 f at0) i).2.2.1)]) ⟨hx, hb, hml, hown, hts⟩ (c_X0_lowestBitEverywhere l ((nI i) >>> ((nI 2) &&& 31))) (va_cwS 1 hts gX0_passBox_X0_lowestBitEverywhere rfl rfl rfl (by decide +kernel) ⟨Nat.le_of_ble_eq_true rfl, Nat.le_of_ble_eq_true rfl⟩) rfl hl.1 rfl (Nat.le_of_ble_eq_true rfl) dX0_passBox_162 ⟨Nat.zero_le _, Nat.zero_le _⟩ ?_
          refine lv_iand hx hb dX0_passBox_165 ?_
          refine lv_ior hx hb dX0_passBox_166 ?_
          refine wk_i (y := (pbN 1 wh (ld4 f at0) (i + 1)).2.2.1) (rfl) ?_
          refine lv_istore (lv' := [(10, .int ((pbN 1 wh (ld4 f at0) (i + 1)).2.2.1)), (9, .int ((pbN 1 wh (ld4 f at0) (i + 1)).2.1)), (8, .int ((pbN 1 wh (ld4 f at0) (i + 1)).1)), (16, .int (pbPl 1 wh (ld4 f at0) i)), (15, .int (nI i)), (14, .int (TB ((wh * 16) + i))), (13, .int (TB ((wh * 16) + i))), (0, .ref w), (1, .int (nI at0)), (2, .int (nI wh)), (3, .int (nI 1)), (4, .int (f at0)), (5, .int (f (at0 + 1))), (6, .int (f (at0 + 2))), (7, .int (f (at0 + 3))), (11, .int ((pbN 1 wh (ld4 f at0) i).2.2.2)), (12, .int (nI i))]) hx hb dX0_passBox_167 hl (by decide) rfl (fun ls hl => ?_)
          refine lv_iload hx hb dX0_passBox_169 (lv_at hl 15 rfl) ?_
          refine lv_iload hx hb dX0_passBox_171 (lv_at hl 3 rfl) ?_
          refine lv_iload hx hb dX0_passBox_173 (lv_at hl 4 rfl) ?_
          refine lv_iconst (v := nI 3) hx hb dX0_passBox_175 (by decide) ?_
          refine lv_ishr hx hb dX0_passBox_176 ?_
          refine wk_Sp (v := lbe ((nI i) >>> ((nI 3) &&& 31))) (As := [.int ((nI i) >>> ((nI 3) &&& 31))]) (rest := [.int (pbPl 1 wh (ld4 f at0) i), .int ((pbN 1 wh (ld4 f at0) i).2.2.2)]) ⟨hx, hb, hml, hown, hts⟩ (c_X0_lowestBitEverywhere l ((nI i) >>> ((nI 3) &&& 31))) (va_cwS 1 hts gX0_passBox_X0_lowestBitEverywhere rfl rfl rfl (by decide +kernel) ⟨Nat.le_of_ble_eq_true rfl, Nat.le_of_ble_eq_true rfl⟩) rfl hl.1 rfl (Nat.le_of_ble_eq_true rfl) dX0_passBox_177 ⟨Nat.zero_le _, Nat.zero_le _⟩ ?_
          refine lv_iand hx hb dX0_passBox_180 ?_
          refine lv_ior hx hb dX0_passBox_181 ?_
          refine wk_i (y := (pbN 1 wh (ld4 f at0) (i + 1)).2.2.2) (rfl) ?_
          refine lv_istore (lv' := [(11, .int ((pbN 1 wh (ld4 f at0) (i + 1)).2.2.2)), (10, .int ((pbN 1 wh (ld4 f at0) (i + 1)).2.2.1)), (9, .int ((pbN 1 wh (ld4 f at0) (i + 1)).2.1)), (8, .int ((pbN 1 wh (ld4 f at0) (i + 1)).1)), (16, .int (pbPl 1 wh (ld4 f at0) i)), (15, .int (nI i)), (14, .int (TB ((wh * 16) + i))), (13, .int (TB ((wh * 16) + i))), (0, .ref w), (1, .int (nI at0)), (2, .int (nI wh)), (3, .int (nI 1)), (4, .int (f at0)), (5, .int (f (at0 + 1))), (6, .int (f (at0 + 2))), (7, .int (f (at0 + 3))), (12, .int (nI i))]) hx hb dX0_passBox_182 hl (by decide) rfl (fun ls hl => ?_)
          refine lv_iinc (v := nI (i + 1)) (lv' := [(12, .int (nI (i + 1))), (11, .int ((pbN 1 wh (ld4 f at0) (i + 1)).2.2.2)), (10, .int ((pbN 1 wh (ld4 f at0) (i + 1)).2.2.1)), (9, .int ((pbN 1 wh (ld4 f at0) (i + 1)).2.1)), (8, .int ((pbN 1 wh (ld4 f at0) (i + 1)).1)), (16, .int (pbPl 1 wh (ld4 f at0) i)), (15, .int (nI i)), (14, .int (TB ((wh * 16) + i))), (13, .int (TB ((wh * 16) + i))), (0, .ref w), (1, .int (nI at0)), (2, .int (nI wh)), (3, .int (nI 1)), (4, .int (f at0)), (5, .int (f (at0 + 1))), (6, .int (f (at0 + 2))), (7, .int (f (at0 + 3)))]) hx hb dX0_passBox_184 hl (k := 16) rfl (wk_inc i (by decide)) (by decide) rfl (fun ls hl => ?_)
          refine lv_goto (tgt := 41) hx hb dX0_passBox_187 (by decide) ?_
          exact ih (i + 1) (by omega) (by omega) _ _ hP hD hS ls (lv_sub hl [9, 10, 11, 12, 13, 14, 15, 16, 4, 3, 2, 1, 0] rfl)
  refine lv_aload_n hx hb dX0_passBox_0 rfl (lv_at hl 0 rfl) ?_
  refine lv_iload_n hx hb dX0_passBox_1 rfl (lv_at hl 1 rfl) ?_
  refine wk_iald hx hb hK hP 0 0 rfl rfl (k := at0) (by omega) (by omega) dX0_passBox_2 ?_
  refine lv_istore (lv' := [(4, .int (f at0)), (0, .ref w), (1, .int (nI at0)), (2, .int (nI wh)), (3, .int (nI 1))]) hx hb dX0_passBox_3 hl (by decide) rfl (fun ls hl => ?_)
  refine lv_aload_n hx hb dX0_passBox_5 rfl (lv_at hl 1 rfl) ?_
  refine lv_iload_n hx hb dX0_passBox_6 rfl (lv_at hl 2 rfl) ?_
  refine lv_iconst (v := nI 1) hx hb dX0_passBox_7 (by decide) ?_
  refine wk_iaddN hx hb (a := at0) (b := 1) dX0_passBox_8 ?_
  refine wk_iald hx hb hK hP 0 0 rfl rfl (k := at0 + 1) (by omega) (by omega) dX0_passBox_9 ?_
  refine lv_istore (lv' := [(5, .int (f (at0 + 1))), (4, .int (f at0)), (0, .ref w), (1, .int (nI at0)), (2, .int (nI wh)), (3, .int (nI 1))]) hx hb dX0_passBox_10 hl (by decide) rfl (fun ls hl => ?_)
  refine lv_aload_n hx hb dX0_passBox_12 rfl (lv_at hl 2 rfl) ?_
  refine lv_iload_n hx hb dX0_passBox_13 rfl (lv_at hl 3 rfl) ?_
  refine lv_iconst (v := nI 2) hx hb dX0_passBox_14 (by decide) ?_
  refine wk_iaddN hx hb (a := at0) (b := 2) dX0_passBox_15 ?_
  refine wk_iald hx hb hK hP 0 0 rfl rfl (k := at0 + 2) (by omega) (by omega) dX0_passBox_16 ?_
  refine lv_istore (lv' := [(6, .int (f (at0 + 2))), (5, .int (f (at0 + 1))), (4, .int (f at0)), (0, .ref w), (1, .int (nI at0)), (2, .int (nI wh)), (3, .int (nI 1))]) hx hb dX0_passBox_17 hl (by decide) rfl (fun ls hl => ?_)
  refine lv_aload_n hx hb dX0_passBox_19 rfl (lv_at hl 3 rfl) ?_
  refine lv_iload_n hx hb dX0_passBox_20 rfl (lv_at hl 4 rfl) ?_
  refine lv_iconst (v := nI 3) hx hb dX0_passBox_21 (by decide) ?_
  refine wk_iaddN hx hb (a := at0) (b := 3) dX0_passBox_22 ?_
  refine wk_iald hx hb hK hP 0 0 rfl rfl (k := at0 + 3) (by omega) (by omega) dX0_passBox_23 ?_
  refine lv_istore (lv' := [(7, .int (f (at0 + 3))), (6, .int (f (at0 + 2))), (5, .int (f (at0 + 1))), (4, .int (f at0)), (0, .ref w), (1, .int (nI at0)), (2, .int (nI wh)), (3, .int (nI 1))]) hx hb dX0_passBox_24 hl (by decide) rfl (fun ls hl => ?_)
  refine lv_iconst (v := nI 0) hx hb dX0_passBox_26 (by decide) ?_
  refine lv_istore (lv' := [(8, .int (nI 0)), (7, .int (f (at0 + 3))), (6, .int (f (at0 + 2))), (5, .int (f (at0 + 1))), (4, .int (f at0)), (0, .ref w), (1, .int (nI at0)), (2, .int (nI wh)), (3, .int (nI 1))]) hx hb dX0_passBox_27 hl (by decide) rfl (fun ls hl => ?_)
  refine lv_iconst (v := nI 0) hx hb dX0_passBox_29 (by decide) ?_
  refine lv_istore (lv' := [(9, .int (nI 0)), (8, .int (nI 0)), (7, .int (f (at0 + 3))), (6, .int (f (at0 + 2))), (5, .int (f (at0 + 1))), (4, .int (f at0)), (0, .ref w), (1, .int (nI at0)), (2, .int (nI wh)), (3, .int (nI 1))]) hx hb dX0_passBox_30 hl (by decide) rfl (fun ls hl => ?_)
  refine lv_iconst (v := nI 0) hx hb dX0_passBox_32 (by decide) ?_
  refine lv_istore (lv' := [(10, .int (nI 0)), (9, .int (nI 0)), (8, .int (nI 0)), (7, .int (f (at0 + 3))), (6, .int (f (at0 + 2))), (5, .int (f (at0 + 1))), (4, .int (f at0)), (0, .ref w), (1, .int (nI at0)), (2, .int (nI wh)), (3, .int (nI 1))]) hx hb dX0_passBox_33 hl (by decide) rfl (fun ls hl => ?_)
  refine lv_iconst (v := nI 0) hx hb dX0_passBox_35 (by decide) ?_
  refine lv_istore (lv' := [(11, .int (nI 0)), (10, .int (nI 0)), (9, .int (nI 0)), (8, .int (nI 0)), (7, .int (f (at0 + 3))), (6, .int (f (at0 + 2))), (5, .int (f (at0 + 1))), (4, .int (f at0)), (0, .ref w), (1, .int (nI at0)), (2, .int (nI wh)), (3, .int (nI 1))]) hx hb dX0_passBox_36 hl (by decide) rfl (fun ls hl => ?_)
  refine lv_iconst (v := nI 0) hx hb dX0_passBox_38 (by decide) ?_
  refine lv_istore (lv' := [(12, .int (nI 0)), (11, .int (nI 0)), (10, .int (nI 0)), (9, .int (nI 0)), (8, .int (nI 0)), (7, .int (f (at0 + 3))), (6, .int (f (at0 + 2))), (5, .int (f (at0 + 1))), (4, .int (f at0)), (0, .ref w), (1, .int (nI at0)), (2, .int (nI wh)), (3, .int (nI 1))]) hx hb dX0_passBox_39 hl (by decide) rfl (fun ls hl => ?_)
  exact lp 17 0 (by omega) (by omega) _ _ hP hD hS ls (lv_sub hl [9, 10, 11, 12, 8, 7, 6, 5, 4, 3, 2, 1, 0] rfl)
end
section
def cEncR (F : Nat → Int32) (x : Qd) : Nat → Qd
  | 0 => x
  | r + 1 => if r < 31 then cMix (cBox 0 (r % 8) (x4 (cEncR F x r) (ld4 F (8 + 4 * r)))) else cBox 0 (r % 8) (x4 (cEncR F x r) (ld4 F (8 + 4 * r)))
theorem cEncR_lt (F : Nat → Int32) (x : Qd) {r : Nat} (h : r < 31) : cEncR F x (r + 1) = cMix (cBox 0 (r % 8) (x4 (cEncR F x r) (ld4 F (8 + 4 * r)))) := if_pos h
theorem cEncR_ge (F : Nat → Int32) (x : Qd) {r : Nat} (h : 31 ≤ r) : cEncR F x (r + 1) = cBox 0 (r % 8) (x4 (cEncR F x r) (ld4 F (8 + 4 * r))) := if_neg (Nat.not_lt.mpr h)
def cEnc (F : Nat → Int32) (x : Qd) : Qd := x4 (cEncR F x 32) (ld4 F (8 + 4 * 32))
/-- back: the state when j rounds are still to be undone -/
def cDecR (F : Nat → Int32) (x : Qd) : Nat → Qd
  | 0 => x4 x (ld4 F (8 + 4 * 32))
  | k + 1 => x4 (cBox 1 ((31 - k) % 8) (if 31 - k < 31 then cUnmix (cDecR F x k) else cDecR F x k)) (ld4 F (8 + 4 * (31 - k)))
theorem cDecR_at (F : Nat → Int32) (x : Qd) {j : Nat} (h : j < 32) : cDecR F x (32 - j) = x4 (cBox 1 (j % 8) (if j < 31 then cUnmix (cDecR F x (32 - (j + 1))) else cDecR F x (32 - (j + 1)))) (ld4 F (8 + 4 * j)) := by
  obtain ⟨k, hk⟩ : ∃ k, 32 - j = k + 1 := ⟨31 - j, by omega⟩
  have e1 : 32 - (j + 1) = k := by omega
  have e2 : 31 - k = j := by omega
  rw [hk, e1]
  show x4 (cBox 1 ((31 - k) % 8) (if 31 - k < 31 then cUnmix (cDecR F x k) else cDecR F x k)) (ld4 F (8 + 4 * (31 - k))) = _
  rw [e2]
theorem cDecR_lt (F : Nat → Int32) (x : Qd) {j : Nat} (h : j < 31) : cDecR F x (32 - j) = x4 (cBox 1 (j % 8) (cUnmix (cDecR F x (32 - (j + 1))))) (ld4 F (8 + 4 * j)) := by rw [cDecR_at F x (by omega), if_pos h]
theorem cDecR_ge (F : Nat → Int32) (x : Qd) {j : Nat} (h : 31 ≤ j) (h2 : j < 32) : cDecR F x (32 - j) = x4 (cBox 1 (j % 8) (cDecR F x (32 - (j + 1)))) (ld4 F (8 + 4 * j)) := by rw [cDecR_at F x h2, if_neg (by omega)]
def cDec (F : Nat → Int32) (x : Qd) : Qd := cDecR F x 32
theorem dec1 (j : Nat) : nI (j + 1) + Int32.ofInt (-1) = nI j := pk_m1 j
set_option maxRecDepth 100000 in
theorem in_X0_encipher : ∀ w ∈ wsX00, w ∈ wsX0_encipher := by decide +kernel
set_option maxHeartbeats 4000000 in
set_option maxRecDepth 100000 in
theorem c_X0_encipher (l : Launch) (D : va_G) (cI : ClassId) (tb : Nat) (sz : Nat) (h0 kw sc so tp ct sr : Nat) (kb kr tl : Int32) (w at0 n : Nat) (F f : Nat → Int32) (h1 : at0 + 4 ≤ n) (h3 : n < 2 ^ 31) : Met l yX0_encipher wsX0_encipher ({ frames := 3, cells := 0, slots := 0, locals := 77 }) (va_Pc [.ref h0, .ref w, .int (nI at0)] (fun U => PW D [(cI, .int)] [(h0, .inr (0, [.ref kw, .int kb, .int kr, .ref sc, .ref so, .ref tp, .int tl, .ref ct, .ref sr])), (sc, .inl (cI, 140, .inl F)), (w, .inl (cI, n, .inl f))] sz U ∧ bxs tb (va_A [(h0, .inr (0, [.ref kw, .int kb, .int kr, .ref sc, .ref so, .ref tp, .int tl, .ref ct, .ref sr])), (sc, .inl (cI, 140, .inl F)), (w, .inl (cI, n, .inl f))] sz) U U.heap)) (va_Qv (fun _ : Unit => True) (fun _ => BW D [(cI, .int)] (va_A [(h0, .inr (0, [.ref kw, .int kb, .int kr, .ref sc, .ref so, .ref tp, .int tl, .ref ct, .ref sr])), (sc, .inl (cI, 140, .inl F)), (w, .inl (cI, n, .inl f))] sz) [(h0, .inr (0, [.ref kw, .int kb, .int kr, .ref sc, .ref so, .ref tp, .int tl, .ref ct, .ref sr])), (sc, .inl (cI, 140, .inl F)), (w, .inl (cI, n, .inl (st4 f at0 (cEnc F (ld4 f at0)))))]) (va_A [(h0, .inr (0, [.ref kw, .int kb, .int kr, .ref sc, .ref so, .ref tp, .int tl, .ref ct, .ref sr])), (sc, .inl (cI, 140, .inl F)), (w, .inl (cI, n, .inl f))] sz)) 0 0 (va_A [(h0, .inr (0, [.ref kw, .int kb, .int kr, .ref sc, .ref so, .ref tp, .int tl, .ref ct, .ref sr])), (sc, .inl (cI, 140, .inl F)), (w, .inl (cI, n, .inl f))] sz) := by
  refine Met.ofW (cc := cX0_encipher) (maxL := 4) (ret := none) (by decide) rfl ?_
  intro p e s m args below meth c s₁ B hml hv
  obtain ⟨rfl, ⟨hsz, hP, hK, hD0⟩, hbx⟩ := hv
  have hx := B.exec
  have hb := B.bytes
  have hr := B.returns
  have hts := atoms_spec (ws := wsX0_encipher) B.pre
  have hown : s.vm.findClass RX0 = some m.cls := findClass_of_methodNamed B.named
  have hlocks := B.notSynchronized
  subst hsz
  have hD := hD0.self (sz := s.heap.size)
  have hinX0 := in_X0_encipher
  generalize hAe : va_A [(h0, .inr (0, [.ref kw, .int kb, .int kr, .ref sc, .ref so, .ref tp, .int tl, .ref ct, .ref sr])), (sc, .inl (cI, 140, .inl F)), (w, .inl (cI, n, .inl f))] s.heap.size = A at hbx hD ⊢
  have hA : ∀ q : Nat, s.heap.size ≤ q → A q := fun q h => by rw [← hAe]; exact Or.inr h
  have hS : va_S A s.heap s.heap [] := va_S.rf
  have hl := lv_entry ([.ref h0, .ref w, .int (nI at0)]) (n := 4) (Nat.le_of_ble_eq_true rfl)
  rw [lg_entry_eq]
  generalize (lg_sl ([.ref h0, .ref w, .int (nI at0)]) ++ List.replicate (4 - (lg_sl ([.ref h0, .ref w, .int (nI at0)])).length) Slot.unset).toArray = ls at hl ⊢
  have hl : lv_has ls 4 [(0, .ref h0), (1, .ref w), (2, .int (nI at0))] := hl
  have lp : ∀ (fu : Nat) (r : Nat), r ≤ 32 → 32 + 1 ≤ r + fu → ∀ (H : Heap) (locs : List Loc), va_P D vwCl [(h0, .inr (0, [.ref kw, .int kb, .int kr, .ref sc, .ref so, .ref tp, .int tl, .ref ct, .ref sr])), (sc, .inl (cI, 140, .inl F)), (w, .inl (cI, n, .inl (st4 f at0 (cEncR F (ld4 f at0) r))))] H → va_D A [(h0, .inr (0, [.ref kw, .int kb, .int kr, .ref sc, .ref so, .ref tp, .int tl, .ref ct, .ref sr])), (sc, .inl (cI, 140, .inl F)), (w, .inl (cI, n, .inl (st4 f at0 (cEncR F (ld4 f at0) r))))] → va_S A s.heap H locs → ∀ (ls : Array Slot), lv_has ls 4 [(0, .ref h0), (1, .ref w), (2, .int (nI at0)), (3, .int (nI r))] → W p l e ((headSpec wsX0_encipher ({ frames := 3, cells := 0, slots := 0, locals := 77 })).room) s m ([.ref h0, .ref w, .int (nI at0)] : List Value).toArray below meth c H locs 0 0 (MQ below (va_Qv (fun _ : Unit => True) (fun _ => BW D [(cI, .int)] A [(h0, .inr (0, [.ref kw, .int kb, .int kr, .ref sc, .ref so, .ref tp, .int tl, .ref ct, .ref sr])), (sc, .inl (cI, 140, .inl F)), (w, .inl (cI, n, .inl (st4 f at0 (cEnc F (ld4 f at0)))))]) A) ([.ref h0, .ref w, .int (nI at0)] : List Value).toArray s 0 0 (A)) (F0 m 2 ls []) := by
    intro fu
    induction fu with
      | zero => intro r hi hfu; exact absurd hfu (by omega)
      | succ fu ih =>
        intro r hi hfu H locs hP hD hS ls hl
        refine lv_iload_n hx hb dX0_encipher_2 rfl (lv_at hl 3 rfl) ?_
        refine lv_bipush (v := nI 32) hx hb dX0_encipher_3 (by decide) ?_
        refine wk_geN (tgt := 48) hx hb (a := r) (b := 32) (by omega) (by decide) dX0_encipher_5 (by decide) (fun c5 => ?_) (fun c5 => ?_)
        · obtain rfl : r = 32 := by omega
          refine lv_aload_n hx hb dX0_encipher_48 rfl (lv_at hl 1 rfl) ?_
          refine lv_iload_n hx hb dX0_encipher_49 rfl (lv_at hl 2 rfl) ?_
          refine lv_aload_n hx hb dX0_encipher_50 rfl (lv_at hl 0 rfl) ?_
          refine va_get (D := D) (ci := 0) (v := .ref sc) (C := RX0) (T := TX0) (N := 9) hx hb hts hinX0 hown hK hP 0 rfl rfl 3 (by decide) (hts (.fieldLink RX0 13 "SlicedCipher" "schedule" "[I") (by decide +kernel)) (fun _ h9 => h9) rfl dX0_encipher_51 ?_
          refine lv_bipush (v := nI 32) hx hb dX0_encipher_54 (by decide) ?_
          refine wk_Sp (v := nI (8 + 4 * 32)) (As := [.int (nI 32)]) (rest := [.ref sc, .int (nI at0), .ref w]) ⟨hx, hb, hml, hown, hts⟩ (c_X0_roundKeyAt l 32) (va_cwS 1 hts gX0_encipher_X0_roundKeyAt rfl rfl rfl (by decide +kernel) ⟨Nat.le_of_ble_eq_true rfl, Nat.le_of_ble_eq_true rfl⟩) rfl hl.1 rfl (Nat.le_of_ble_eq_true rfl) dX0_encipher_56 ⟨Nat.zero_le _, Nat.zero_le _⟩ ?_
          refine wk_Sv (As := [.ref w, .int (nI at0), .ref sc, .int (nI (8 + 4 * 32))]) (rest := []) (wc := [(w, .inl (cI, n, .inl (st4 f at0 (cEncR F (ld4 f at0) 32)))), (sc, .inl (cI, 140, .inl F))]) (wr := [(h0, .inr (0, [.ref kw, .int kb, .int kr, .ref sc, .ref so, .ref tp, .int tl, .ref ct, .ref sr]))]) (w1 := [(w, .inl (cI, n, .inl (xbF (st4 f at0 (cEncR F (ld4 f at0) 32)) at0 F (8 + 4 * 32) 4))), (sc, .inl (cI, 140, .inl F))]) (w2 := [(h0, .inr (0, [.ref kw, .int kb, .int kr, .ref sc, .ref so, .ref tp, .int tl, .ref ct, .ref sr])), (sc, .inl (cI, 140, .inl F)), (w, .inl (cI, n, .inl (xbF (st4 f at0 (cEncR F (ld4 f at0) 32)) at0 F (8 + 4 * 32) 4)))]) ⟨hx, hb, hml, hown, hts⟩ (c_X0_xorBlock l D cI _ w at0 sc (8 + 4 * 32) n 140 (st4 f at0 (cEncR F (ld4 f at0) 32)) F h1 (by omega) h3 (by decide)) (va_cwS 4 hts gX0_encipher_X0_xorBlock rfl rfl rfl (by decide +kernel) ⟨Nat.le_of_ble_eq_true rfl, Nat.le_of_ble_eq_true rfl⟩) (fun _ _ _ _ h => h) (fun _ _ _ _ => trivial) hK hP hD hS hA [2, 1] [0] rfl (by decide) rfl (by decide) (by decide) [0, 2, 1] rfl (by decide) rfl hl.1 rfl (Nat.le_of_ble_eq_true rfl) dX0_encipher_59 ⟨Nat.zero_le _, Nat.zero_le _⟩ (fun H locs hP hD hS => ?_)
          simp only [xb_eq, ld4_st4, st4_st4] at hP hD
          have hP : va_P D vwCl [(h0, .inr (0, [.ref kw, .int kb, .int kr, .ref sc, .ref so, .ref tp, .int tl, .ref ct, .ref sr])), (sc, .inl (cI, 140, .inl F)), (w, .inl (cI, n, .inl (st4 f at0 (x4 (cEncR F (ld4 f at0) 32) (ld4 F (8 + 4 * 32))))))] H := hP
          have hD : va_D A [(h0, .inr (0, [.ref kw, .int kb, .int kr, .ref sc, .ref so, .ref tp, .int tl, .ref ct, .ref sr])), (sc, .inl (cI, 140, .inl F)), (w, .inl (cI, n, .inl (st4 f at0 (x4 (cEncR F (ld4 f at0) 32) (ld4 F (8 + 4 * 32))))))] := hD
          exact W.vret hx hb hr (fun t ht hW => ⟨⟨(), rfl, trivial, by rw [ht]; exact hP, va_K.moved hW.alike hK, hD⟩, hS.F ht⟩) hS.2.2 dX0_encipher_62
        · refine lv_aload_n hx hb dX0_encipher_8 rfl (lv_at hl 1 rfl) ?_
          refine lv_iload_n hx hb dX0_encipher_9 rfl (lv_at hl 2 rfl) ?_
          refine lv_aload_n hx hb dX0_encipher_10 rfl (lv_at hl 0 rfl) ?_
          refine va_get (D := D) (ci := 0) (v := .ref sc) (C := RX0) (T := TX0) (N := 9) hx hb hts hinX0 hown hK hP 0 rfl rfl 3 (by decide) (hts (.fieldLink RX0 13 "SlicedCipher" "schedule" "[I") (by decide +kernel)) (fun _ h9 => h9) rfl dX0_encipher_11 ?_
          refine lv_iload_n hx hb dX0_encipher_14 rfl (lv_at hl 3 rfl) ?_
          refine wk_Sp (v := nI (8 + 4 * r)) (As := [.int (nI r)]) (rest := [.ref sc, .int (nI at0), .ref w]) ⟨hx, hb, hml, hown, hts⟩ (c_X0_roundKeyAt l r) (va_cwS 1 hts gX0_encipher_X0_roundKeyAt rfl rfl rfl (by decide +kernel) ⟨Nat.le_of_ble_eq_true rfl, Nat.le_of_ble_eq_true rfl⟩) rfl hl.1 rfl (Nat.le_of_ble_eq_true rfl) dX0_encipher_15 ⟨Nat.zero_le _, Nat.zero_le _⟩ ?_
          refine wk_Sv (As := [.ref w, .int (nI at0), .ref sc, .int (nI (8 + 4 * r))]) (rest := []) (wc := [(w, .inl (cI, n, .inl (st4 f at0 (cEncR F (ld4 f at0) r)))), (sc, .inl (cI, 140, .inl F))]) (wr := [(h0, .inr (0, [.ref kw, .int kb, .int kr, .ref sc, .ref so, .ref tp, .int tl, .ref ct, .ref sr]))]) (w1 := [(w, .inl (cI, n, .inl (xbF (st4 f at0 (cEncR F (ld4 f at0) r)) at0 F (8 + 4 * r) 4))), (sc, .inl (cI, 140, .inl F))]) (w2 := [(h0, .inr (0, [.ref kw, .int kb, .int kr, .ref sc, .ref so, .ref tp, .int tl, .ref ct, .ref sr])), (sc, .inl (cI, 140, .inl F)), (w, .inl (cI, n, .inl (xbF (st4 f at0 (cEncR F (ld4 f at0) r)) at0 F (8 + 4 * r) 4)))]) ⟨hx, hb, hml, hown, hts⟩ (c_X0_xorBlock l D cI _ w at0 sc (8 + 4 * r) n 140 (st4 f at0 (cEncR F (ld4 f at0) r)) F h1 (by omega) h3 (by decide)) (va_cwS 4 hts gX0_encipher_X0_xorBlock rfl rfl rfl (by decide +kernel) ⟨Nat.le_of_ble_eq_true rfl, Nat.le_of_ble_eq_true rfl⟩) (fun _ _ _ _ h => h) (fun _ _ _ _ => trivial) hK hP hD hS hA [2, 1] [0] rfl (by decide) rfl (by decide) (by decide) [0, 2, 1] rfl (by decide) rfl hl.1 rfl (Nat.le_of_ble_eq_true rfl) dX0_encipher_18 ⟨Nat.zero_le _, Nat.zero_le _⟩ (fun H locs hP hD hS => ?_)
          simp only [xb_eq, ld4_st4, st4_st4] at hP hD
          have hP : va_P D vwCl [(h0, .inr (0, [.ref kw, .int kb, .int kr, .ref sc, .ref so, .ref tp, .int tl, .ref ct, .ref sr])), (sc, .inl (cI, 140, .inl F)), (w, .inl (cI, n, .inl (st4 f at0 (x4 (cEncR F (ld4 f at0) r) (ld4 F (8 + 4 * r))))))] H := hP
          have hD : va_D A [(h0, .inr (0, [.ref kw, .int kb, .int kr, .ref sc, .ref so, .ref tp, .int tl, .ref ct, .ref sr])), (sc, .inl (cI, 140, .inl F)), (w, .inl (cI, n, .inl (st4 f at0 (x4 (cEncR F (ld4 f at0) r) (ld4 F (8 + 4 * r))))))] := hD
          refine lv_aload_n hx hb dX0_encipher_21 rfl (lv_at hl 1 rfl) ?_
          refine lv_iload_n hx hb dX0_encipher_22 rfl (lv_at hl 2 rfl) ?_
          refine lv_iload_n hx hb dX0_encipher_23 rfl (lv_at hl 3 rfl) ?_
          refine lv_bipush (v := nI 8) hx hb dX0_encipher_24 (by decide) ?_
          refine wk_iremN hx hb (a := r) (b := 8) (by omega) (by decide) (by decide) dX0_encipher_26 ?_
          refine lv_iconst (v := nI 0) hx hb dX0_encipher_27 (by decide) ?_
          refine wk_Sv (As := [.ref w, .int (nI at0), .int (nI (r % 8)), .int (nI 0)]) (rest := []) (wc := [(w, .inl (cI, n, .inl (st4 f at0 (x4 (cEncR F (ld4 f at0) r) (ld4 F (8 + 4 * r))))))]) (wr := [(h0, .inr (0, [.ref kw, .int kb, .int kr, .ref sc, .ref so, .ref tp, .int tl, .ref ct, .ref sr])), (sc, .inl (cI, 140, .inl F))]) (w1 := [(w, .inl (cI, n, .inl (st4 (st4 f at0 (x4 (cEncR F (ld4 f at0) r) (ld4 F (8 + 4 * r)))) at0 (cBox 0 (r % 8) (ld4 (st4 f at0 (x4 (cEncR F (ld4 f at0) r) (ld4 F (8 + 4 * r)))) at0)))))]) (w2 := [(h0, .inr (0, [.ref kw, .int kb, .int kr, .ref sc, .ref so, .ref tp, .int tl, .ref ct, .ref sr])), (sc, .inl (cI, 140, .inl F)), (w, .inl (cI, n, .inl (st4 (st4 f at0 (x4 (cEncR F (ld4 f at0) r) (ld4 F (8 + 4 * r)))) at0 (cBox 0 (r % 8) (ld4 (st4 f at0 (x4 (cEncR F (ld4 f at0) r) (ld4 F (8 + 4 * r)))) at0)))))]) ⟨hx, hb, hml, hown, hts⟩ (c_X0_passBox0 l D cI tb _ w at0 (r % 8) n (st4 f at0 (x4 (cEncR F (ld4 f at0) r) (ld4 F (8 + 4 * r)))) h1 (Nat.mod_lt _ (by decide)) h3) (va_cwS 4 hts gX0_encipher_X0_passBox rfl rfl rfl (by decide +kernel) ⟨Nat.le_of_ble_eq_true rfl, Nat.le_of_ble_eq_true rfl⟩) (fun U g mk a h => bxs.call g mk a h) (fun hF U hU hW => hbx.give hS hF hU hW) hK hP hD hS hA [2] [0, 1] rfl (by decide) rfl (by decide) (by decide) [0, 1, 2] rfl (by decide) rfl hl.1 rfl (Nat.le_of_ble_eq_true rfl) dX0_encipher_28 ⟨Nat.zero_le _, Nat.zero_le _⟩ (fun H locs hP hD hS => ?_)
          simp only [xb_eq, ld4_st4, st4_st4] at hP hD
          have hP : va_P D vwCl [(h0, .inr (0, [.ref kw, .int kb, .int kr, .ref sc, .ref so, .ref tp, .int tl, .ref ct, .ref sr])), (sc, .inl (cI, 140, .inl F)), (w, .inl (cI, n, .inl (st4 f at0 (cBox 0 (r % 8) (x4 (cEncR F (ld4 f at0) r) (ld4 F (8 + 4 * r)))))))] H := hP
          have hD : va_D A [(h0, .inr (0, [.ref kw, .int kb, .int kr, .ref sc, .ref so, .ref tp, .int tl, .ref ct, .ref sr])), (sc, .inl (cI, 140, .inl F)), (w, .inl (cI, n, .inl (st4 f at0 (cBox 0 (r % 8) (x4 (cEncR F (ld4 f at0) r) (ld4 F (8 + 4 * r)))))))] := hD
          refine lv_iload_n hx hb dX0_encipher_31 rfl (lv_at hl 3 rfl) ?_
          refine lv_bipush (v := nI 31) hx hb dX0_encipher_32 (by decide) ?_
          refine wk_geN (tgt := 42) hx hb (a := r) (b := 31) (by omega) (by decide) dX0_encipher_34 (by decide) (fun c34 => ?_) (fun c34 => ?_)
          · refine lv_iinc (v := nI (r + 1)) (lv' := [(3, .int (nI (r + 1))), (0, .ref h0), (1, .ref w), (2, .int (nI at0))]) hx hb dX0_encipher_42 hl (k := 3) rfl (wk_inc r (by decide)) (by decide) rfl (fun ls hl => ?_)
            refine lv_goto (tgt := 2) hx hb dX0_encipher_45 (by decide) ?_
            rw [← cEncR_ge F (ld4 f at0) c34] at hP hD
            exact ih (r + 1) (by omega) (by omega) _ _ hP hD hS ls (lv_sub hl [1, 2, 3, 0] rfl)
          · refine lv_aload_n hx hb dX0_encipher_37 rfl (lv_at hl 1 rfl) ?_
            refine lv_iload_n hx hb dX0_encipher_38 rfl (lv_at hl 2 rfl) ?_
            refine wk_Sv (As := [.ref w, .int (nI at0)]) (rest := []) (wc := [(w, .inl (cI, n, .inl (st4 f at0 (cBox 0 (r % 8) (x4 (cEncR F (ld4 f at0) r) (ld4 F (8 + 4 * r)))))))]) (wr := [(h0, .inr (0, [.ref kw, .int kb, .int kr, .ref sc, .ref so, .ref tp, .int tl, .ref ct, .ref sr])), (sc, .inl (cI, 140, .inl F))]) (w1 := [(w, .inl (cI, n, .inl (st4 (st4 f at0 (cBox 0 (r % 8) (x4 (cEncR F (ld4 f at0) r) (ld4 F (8 + 4 * r))))) at0 (cMix (ld4 (st4 f at0 (cBox 0 (r % 8) (x4 (cEncR F (ld4 f at0) r) (ld4 F (8 + 4 * r))))) at0)))))]) (w2 := [(h0, .inr (0, [.ref kw, .int kb, .int kr, .ref sc, .ref so, .ref tp, .int tl, .ref ct, .ref sr])), (sc, .inl (cI, 140, .inl F)), (w, .inl (cI, n, .inl (st4 (st4 f at0 (cBox 0 (r % 8) (x4 (cEncR F (ld4 f at0) r) (ld4 F (8 + 4 * r))))) at0 (cMix (ld4 (st4 f at0 (cBox 0 (r % 8) (x4 (cEncR F (ld4 f at0) r) (ld4 F (8 + 4 * r))))) at0)))))]) ⟨hx, hb, hml, hown, hts⟩ (c_X0_mix l D cI _ w at0 n (st4 f at0 (cBox 0 (r % 8) (x4 (cEncR F (ld4 f at0) r) (ld4 F (8 + 4 * r))))) h1 h3) (va_cwS 2 hts gX0_encipher_X0_mix rfl rfl rfl (by decide +kernel) ⟨Nat.le_of_ble_eq_true rfl, Nat.le_of_ble_eq_true rfl⟩) (fun _ _ _ _ h => h) (fun _ _ _ _ => trivial) hK hP hD hS hA [2] [0, 1] rfl (by decide) rfl (by decide) (by decide) [0, 1, 2] rfl (by decide) rfl hl.1 rfl (Nat.le_of_ble_eq_true rfl) dX0_encipher_39 ⟨Nat.zero_le _, Nat.zero_le _⟩ (fun H locs hP hD hS => ?_)
            simp only [xb_eq, ld4_st4, st4_st4] at hP hD
            have hP : va_P D vwCl [(h0, .inr (0, [.ref kw, .int kb, .int kr, .ref sc, .ref so, .ref tp, .int tl, .ref ct, .ref sr])), (sc, .inl (cI, 140, .inl F)), (w, .inl (cI, n, .inl (st4 f at0 (cMix (cBox 0 (r % 8) (x4 (cEncR F (ld4 f at0) r) (ld4 F (8 + 4 * r))))))))] H := hP
            have hD : va_D A [(h0, .inr (0, [.ref kw, .int kb, .int kr, .ref sc, .ref so, .ref tp, .int tl, .ref ct, .ref sr])), (sc, .inl (cI, 140, .inl F)), (w, .inl (cI, n, .inl (st4 f at0 (cMix (cBox 0 (r % 8) (x4 (cEncR F (ld4 f at0) r) (ld4 F (8 + 4 * r))))))))] := hD
            refine lv_iinc (v := nI (r + 1)) (lv' := [(3, .int (nI (r + 1))), (0, .ref h0), (1, .ref w), (2, .int (nI at0))]) hx hb dX0_encipher_42 hl (k := 3) rfl (wk_inc r (by decide)) (by decide) rfl (fun ls hl => ?_)
            refine lv_goto (tgt := 2) hx hb dX0_encipher_45 (by decide) ?_
            rw [← cEncR_lt F (ld4 f at0) c34] at hP hD
            exact ih (r + 1) (by omega) (by omega) _ _ hP hD hS ls (lv_sub hl [1, 2, 3, 0] rfl)
  refine lv_iconst (v := nI 0) hx hb dX0_encipher_0 (by decide) ?_
  refine lv_istore_n (lv' := [(3, .int (nI 0)), (0, .ref h0), (1, .ref w), (2, .int (nI at0))]) hx hb dX0_encipher_1 rfl hl (by decide) rfl (fun ls hl => ?_)
  have hP : va_P D vwCl [(h0, .inr (0, [.ref kw, .int kb, .int kr, .ref sc, .ref so, .ref tp, .int tl, .ref ct, .ref sr])), (sc, .inl (cI, 140, .inl F)), (w, .inl (cI, n, .inl (st4 f at0 ((ld4 f at0)))))] s.heap := by rw [st4_ld4]; exact hP
  have hD : va_D A [(h0, .inr (0, [.ref kw, .int kb, .int kr, .ref sc, .ref so, .ref tp, .int tl, .ref ct, .ref sr])), (sc, .inl (cI, 140, .inl F)), (w, .inl (cI, n, .inl (st4 f at0 ((ld4 f at0)))))] := by rw [st4_ld4]; exact hD
  exact lp 33 0 (by omega) (by omega) _ _ hP hD hS ls (lv_sub hl [1, 2, 3, 0] rfl)
set_option maxRecDepth 100000 in
theorem in_X0_decipher : ∀ w ∈ wsX00, w ∈ wsX0_decipher := by decide +kernel
set_option maxHeartbeats 4000000 in
set_option maxRecDepth 100000 in
theorem c_X0_decipher (l : Launch) (D : va_G) (cI : ClassId) (tb : Nat) (sz : Nat) (h0 kw sc so tp ct sr : Nat) (kb kr tl : Int32) (w at0 n : Nat) (F f : Nat → Int32) (h1 : at0 + 4 ≤ n) (h3 : n < 2 ^ 31) : Met l yX0_decipher wsX0_decipher ({ frames := 3, cells := 0, slots := 0, locals := 77 }) (va_Pc [.ref h0, .ref w, .int (nI at0)] (fun U => PW D [(cI, .int)] [(h0, .inr (0, [.ref kw, .int kb, .int kr, .ref sc, .ref so, .ref tp, .int tl, .ref ct, .ref sr])), (sc, .inl (cI, 140, .inl F)), (w, .inl (cI, n, .inl f))] sz U ∧ bxs tb (va_A [(h0, .inr (0, [.ref kw, .int kb, .int kr, .ref sc, .ref so, .ref tp, .int tl, .ref ct, .ref sr])), (sc, .inl (cI, 140, .inl F)), (w, .inl (cI, n, .inl f))] sz) U U.heap)) (va_Qv (fun _ : Unit => True) (fun _ => BW D [(cI, .int)] (va_A [(h0, .inr (0, [.ref kw, .int kb, .int kr, .ref sc, .ref so, .ref tp, .int tl, .ref ct, .ref sr])), (sc, .inl (cI, 140, .inl F)), (w, .inl (cI, n, .inl f))] sz) [(h0, .inr (0, [.ref kw, .int kb, .int kr, .ref sc, .ref so, .ref tp, .int tl, .ref ct, .ref sr])), (sc, .inl (cI, 140, .inl F)), (w, .inl (cI, n, .inl (st4 f at0 (cDec F (ld4 f at0)))))]) (va_A [(h0, .inr (0, [.ref kw, .int kb, .int kr, .ref sc, .ref so, .ref tp, .int tl, .ref ct, .ref sr])), (sc, .inl (cI, 140, .inl F)), (w, .inl (cI, n, .inl f))] sz)) 0 0 (va_A [(h0, .inr (0, [.ref kw, .int kb, .int kr, .ref sc, .ref so, .ref tp, .int tl, .ref ct, .ref sr])), (sc, .inl (cI, 140, .inl F)), (w, .inl (cI, n, .inl f))] sz) := by
  refine Met.ofW (cc := cX0_decipher) (maxL := 4) (ret := none) (by decide) rfl ?_
  intro p e s m args below meth c s₁ B hml hv
  obtain ⟨rfl, ⟨hsz, hP, hK, hD0⟩, hbx⟩ := hv
  have hx := B.exec
  have hb := B.bytes
  have hr := B.returns
  have hts := atoms_spec (ws := wsX0_decipher) B.pre
  have hown : s.vm.findClass RX0 = some m.cls := findClass_of_methodNamed B.named
  have hlocks := B.notSynchronized
  subst hsz
  have hD := hD0.self (sz := s.heap.size)
  have hinX0 := in_X0_decipher
  generalize hAe : va_A [(h0, .inr (0, [.ref kw, .int kb, .int kr, .ref sc, .ref so, .ref tp, .int tl, .ref ct, .ref sr])), (sc, .inl (cI, 140, .inl F)), (w, .inl (cI, n, .inl f))] s.heap.size = A at hbx hD ⊢
  have hA : ∀ q : Nat, s.heap.size ≤ q → A q := fun q h => by rw [← hAe]; exact Or.inr h
  have hS : va_S A s.heap s.heap [] := va_S.rf
  have hl := lv_entry ([.ref h0, .ref w, .int (nI at0)]) (n := 4) (Nat.le_of_ble_eq_true rfl)
  rw [lg_entry_eq]
  generalize (lg_sl ([.ref h0, .ref w, .int (nI at0)]) ++ List.replicate (4 - (lg_sl ([.ref h0, .ref w, .int (nI at0)])).length) Slot.unset).toArray = ls at hl ⊢
  have hl : lv_has ls 4 [(0, .ref h0), (1, .ref w), (2, .int (nI at0))] := hl
  have lp : ∀ (fu : Nat) (j : Nat), j ≤ 32 → j + 1 ≤ fu → ∀ (H : Heap) (locs : List Loc), va_P D vwCl [(h0, .inr (0, [.ref kw, .int kb, .int kr, .ref sc, .ref so, .ref tp, .int tl, .ref ct, .ref sr])), (sc, .inl (cI, 140, .inl F)), (w, .inl (cI, n, .inl (st4 f at0 (cDecR F (ld4 f at0) (32 - j)))))] H → va_D A [(h0, .inr (0, [.ref kw, .int kb, .int kr, .ref sc, .ref so, .ref tp, .int tl, .ref ct, .ref sr])), (sc, .inl (cI, 140, .inl F)), (w, .inl (cI, n, .inl (st4 f at0 (cDecR F (ld4 f at0) (32 - j)))))] → va_S A s.heap H locs → ∀ (ls : Array Slot), lv_has ls 4 [(0, .ref h0), (1, .ref w), (2, .int (nI at0)), (3, .int (nI j + Int32.ofInt (-1)))] → W p l e ((headSpec wsX0_decipher ({ frames := 3, cells := 0, slots := 0, locals := 77 })).room) s m ([.ref h0, .ref w, .int (nI at0)] : List Value).toArray below meth c H locs 0 0 (MQ below (va_Qv (fun _ : Unit => True) (fun _ => BW D [(cI, .int)] A [(h0, .inr (0, [.ref kw, .int kb, .int kr, .ref sc, .ref so, .ref tp, .int tl, .ref ct, .ref sr])), (sc, .inl (cI, 140, .inl F)), (w, .inl (cI, n, .inl (st4 f at0 (cDec F (ld4 f at0)))))]) A) ([.ref h0, .ref w, .int (nI at0)] : List Value).toArray s 0 0 (A)) (F0 m 17 ls []) := by
    intro fu
    induction fu with
      | zero => intro j hi hfu; exact absurd hfu (by omega)
      | succ fu ih =>
        intro j hi hfu H locs hP hD hS ls hl
        rcases j with _ | j
        · refine lv_iload_n hx hb dX0_decipher_17 rfl (lv_at hl 3 rfl) ?_
          refine lv_if_lt (tgt := 61) hx hb dX0_decipher_18 (by decide) (fun c18 => ?_) (fun c18 => absurd c18 (by decide))
          exact W.vret hx hb hr (fun t ht hW => ⟨⟨(), rfl, trivial, by rw [ht]; exact hP, va_K.moved hW.alike hK, hD⟩, hS.F ht⟩) hS.2.2 dX0_decipher_61
        · rw [dec1 j] at hl
          refine lv_iload_n hx hb dX0_decipher_17 rfl (lv_at hl 3 rfl) ?_
          refine lv_if_lt (tgt := 61) hx hb dX0_decipher_18 (by decide) (fun c18 => absurd c18 (nI_pos (by omega))) (fun c18 => ?_)
          refine lv_iload_n hx hb dX0_decipher_21 rfl (lv_at hl 3 rfl) ?_
          refine lv_bipush (v := nI 31) hx hb dX0_decipher_22 (by decide) ?_
          refine wk_geN (tgt := 32) hx hb (a := j) (b := 31) (by omega) (by decide) dX0_decipher_24 (by decide) (fun c24 => ?_) (fun c24 => ?_)
          · refine lv_aload_n hx hb dX0_decipher_32 rfl (lv_at hl 1 rfl) ?_
            refine lv_iload_n hx hb dX0_decipher_33 rfl (lv_at hl 2 rfl) ?_
            refine lv_iload_n hx hb dX0_decipher_34 rfl (lv_at hl 3 rfl) ?_
            refine lv_bipush (v := nI 8) hx hb dX0_decipher_35 (by decide) ?_
            refine wk_iremN hx hb (a := j) (b := 8) (by omega) (by decide) (by decide) dX0_decipher_37 ?_
            refine lv_iconst (v := nI 1) hx hb dX0_decipher_38 (by decide) ?_
            refine wk_Sv (As := [.ref w, .int (nI at0), .int (nI (j % 8)), .int (nI 1)]) (rest := []) (wc := [(w, .inl (cI, n, .inl (st4 f at0 (cDecR F (ld4 f at0) (32 - (j + 1))))))]) (wr := [(h0, .inr (0, [.ref kw, .int kb, .int kr, .ref sc, .ref so, .ref tp, .int tl, .ref ct, .ref sr])), (sc, .inl (cI, 140, .inl F))]) (w1 := [(w, .inl (cI, n, .inl (st4 (st4 f at0 (cDecR F (ld4 f at0) (32 - (j + 1)))) at0 (cBox 1 (j % 8) (ld4 (st4 f at0 (cDecR F (ld4 f at0) (32 - (j + 1)))) at0)))))]) (w2 := [(h0, .inr (0, [.ref kw, .int kb, .int kr, .ref sc, .ref so, .ref tp, .int tl, .ref ct, .ref sr])), (sc, .inl (cI, 140, .inl F)), (w, .inl (cI, n, .inl (st4 (st4 f at0 (cDecR F (ld4 f at0) (32 - (j + 1)))) at0 (cBox 1 (j % 8) (ld4 (st4 f at0 (cDecR F (ld4 f at0) (32 - (j + 1)))) at0)))))]) ⟨hx, hb, hml, hown, hts⟩ (c_X0_passBox1 l D cI tb _ w at0 (j % 8) n (st4 f at0 (cDecR F (ld4 f at0) (32 - (j + 1)))) h1 (Nat.mod_lt _ (by decide)) h3) (va_cwS 4 hts gX0_decipher_X0_passBox rfl rfl rfl (by decide +kernel) ⟨Nat.le_of_ble_eq_true rfl, Nat.le_of_ble_eq_true rfl⟩) (fun U g mk a h => bxs.call g mk a h) (fun hF U hU hW => hbx.give hS hF hU hW) hK hP hD hS hA [2] [0, 1] rfl (by decide) rfl (by decide) (by decide) [0, 1, 2] rfl (by decide) rfl hl.1 rfl (Nat.le_of_ble_eq_true rfl) dX0_decipher_39 ⟨Nat.zero_le _, Nat.zero_le _⟩ (fun H locs hP hD hS => ?_)
            simp only [xb_eq, ld4_st4, st4_st4] at hP hD
            have hP : va_P D vwCl [(h0, .inr (0, [.ref kw, .int kb, .int kr, .ref sc, .ref so, .ref tp, .int tl, .ref ct, .ref sr])), (sc, .inl (cI, 140, .inl F)), (w, .inl (cI, n, .inl (st4 f at0 (cBox 1 (j % 8) (cDecR F (ld4 f at0) (32 - (j + 1)))))))] H := hP
            have hD : va_D A [(h0, .inr (0, [.ref kw, .int kb, .int kr, .ref sc, .ref so, .ref tp, .int tl, .ref ct, .ref sr])), (sc, .inl (cI, 140, .inl F)), (w, .inl (cI, n, .inl (st4 f at0 (cBox 1 (j % 8) (cDecR F (ld4 f at0) (32 - (j + 1)))))))] := hD
            refine lv_aload_n hx hb dX0_decipher_42 rfl (lv_at hl 1 rfl) ?_
            refine lv_iload_n hx hb dX0_decipher_43 rfl (lv_at hl 2 rfl) ?_
            refine lv_aload_n hx hb dX0_decipher_44 rfl (lv_at hl 0 rfl) ?_
            refine va_get (D := D) (ci := 0) (v := .ref sc) (C := RX0) (T := TX0) (N := 9) hx hb hts hinX0 hown hK hP 0 rfl rfl 3 (by decide) (hts (.fieldLink RX0 13 "SlicedCipher" "schedule" "[I") (by decide +kernel)) (fun _ h9 => h9) rfl dX0_decipher_45 ?_
            refine lv_iload_n hx hb dX0_decipher_48 rfl (lv_at hl 3 rfl) ?_
            refine wk_Sp (v := nI (8 + 4 * j)) (As := [.int (nI j)]) (rest := [.ref sc, .int (nI at0), .ref w]) ⟨hx, hb, hml, hown, hts⟩ (c_X0_roundKeyAt l j) (va_cwS 1 hts gX0_decipher_X0_roundKeyAt rfl rfl rfl (by decide +kernel) ⟨Nat.le_of_ble_eq_true rfl, Nat.le_of_ble_eq_true rfl⟩) rfl hl.1 rfl (Nat.le_of_ble_eq_true rfl) dX0_decipher_49 ⟨Nat.zero_le _, Nat.zero_le _⟩ ?_
            refine wk_Sv (As := [.ref w, .int (nI at0), .ref sc, .int (nI (8 + 4 * j))]) (rest := []) (wc := [(w, .inl (cI, n, .inl (st4 f at0 (cBox 1 (j % 8) (cDecR F (ld4 f at0) (32 - (j + 1))))))), (sc, .inl (cI, 140, .inl F))]) (wr := [(h0, .inr (0, [.ref kw, .int kb, .int kr, .ref sc, .ref so, .ref tp, .int tl, .ref ct, .ref sr]))]) (w1 := [(w, .inl (cI, n, .inl (xbF (st4 f at0 (cBox 1 (j % 8) (cDecR F (ld4 f at0) (32 - (j + 1))))) at0 F (8 + 4 * j) 4))), (sc, .inl (cI, 140, .inl F))]) (w2 := [(h0, .inr (0, [.ref kw, .int kb, .int kr, .ref sc, .ref so, .ref tp, .int tl, .ref ct, .ref sr])), (sc, .inl (cI, 140, .inl F)), (w, .inl (cI, n, .inl (xbF (st4 f at0 (cBox 1 (j % 8) (cDecR F (ld4 f at0) (32 - (j + 1))))) at0 F (8 + 4 * j) 4)))]) ⟨hx, hb, hml, hown, hts⟩ (c_X0_xorBlock l D cI _ w at0 sc (8 + 4 * j) n 140 (st4 f at0 (cBox 1 (j % 8) (cDecR F (ld4 f at0) (32 - (j + 1))))) F h1 (by omega) h3 (by decide)) (va_cwS 4 hts gX0_decipher_X0_xorBlock rfl rfl rfl (by decide +kernel) ⟨Nat.le_of_ble_eq_true rfl, Nat.le_of_ble_eq_true rfl⟩) (fun _ _ _ _ h => h) (fun _ _ _ _ => trivial) hK hP hD hS hA [2, 1] [0] rfl (by decide) rfl (by decide) (by decide) [0, 2, 1] rfl (by decide) rfl hl.1 rfl (Nat.le_of_ble_eq_true rfl) dX0_decipher_52 ⟨Nat.zero_le _, Nat.zero_le _⟩ (fun H locs hP hD hS => ?_)
            simp only [xb_eq, ld4_st4, st4_st4] at hP hD
            have hP : va_P D vwCl [(h0, .inr (0, [.ref kw, .int kb, .int kr, .ref sc, .ref so, .ref tp, .int tl, .ref ct, .ref sr])), (sc, .inl (cI, 140, .inl F)), (w, .inl (cI, n, .inl (st4 f at0 (x4 (cBox 1 (j % 8) (cDecR F (ld4 f at0) (32 - (j + 1)))) (ld4 F (8 + 4 * j))))))] H := hP
            have hD : va_D A [(h0, .inr (0, [.ref kw, .int kb, .int kr, .ref sc, .ref so, .ref tp, .int tl, .ref ct, .ref sr])), (sc, .inl (cI, 140, .inl F)), (w, .inl (cI, n, .inl (st4 f at0 (x4 (cBox 1 (j % 8) (cDecR F (ld4 f at0) (32 - (j + 1)))) (ld4 F (8 + 4 * j))))))] := hD
            refine lv_iinc (v := nI j + Int32.ofInt (-1)) (lv' := [(3, .int (nI j + Int32.ofInt (-1))), (0, .ref h0), (1, .ref w), (2, .int (nI at0))]) hx hb dX0_decipher_55 hl (k := 3) rfl rfl (by decide) rfl (fun ls hl => ?_)
            refine lv_goto (tgt := 17) hx hb dX0_decipher_58 (by decide) ?_
            rw [← cDecR_ge F (ld4 f at0) c24 (by omega)] at hP hD
            exact ih j (by omega) (by omega) _ _ hP hD hS ls (lv_sub hl [1, 2, 3, 0] rfl)
          · refine lv_aload_n hx hb dX0_decipher_27 rfl (lv_at hl 1 rfl) ?_
            refine lv_iload_n hx hb dX0_decipher_28 rfl (lv_at hl 2 rfl) ?_
            refine wk_Sv (As := [.ref w, .int (nI at0)]) (rest := []) (wc := [(w, .inl (cI, n, .inl (st4 f at0 (cDecR F (ld4 f at0) (32 - (j + 1))))))]) (wr := [(h0, .inr (0, [.ref kw, .int kb, .int kr, .ref sc, .ref so, .ref tp, .int tl, .ref ct, .ref sr])), (sc, .inl (cI, 140, .inl F))]) (w1 := [(w, .inl (cI, n, .inl (st4 (st4 f at0 (cDecR F (ld4 f at0) (32 - (j + 1)))) at0 (cUnmix (ld4 (st4 f at0 (cDecR F (ld4 f at0) (32 - (j + 1)))) at0)))))]) (w2 := [(h0, .inr (0, [.ref kw, .int kb, .int kr, .ref sc, .ref so, .ref tp, .int tl, .ref ct, .ref sr])), (sc, .inl (cI, 140, .inl F)), (w, .inl (cI, n, .inl (st4 (st4 f at0 (cDecR F (ld4 f at0) (32 - (j + 1)))) at0 (cUnmix (ld4 (st4 f at0 (cDecR F (ld4 f at0) (32 - (j + 1)))) at0)))))]) ⟨hx, hb, hml, hown, hts⟩ (c_X0_unmix l D cI _ w at0 n (st4 f at0 (cDecR F (ld4 f at0) (32 - (j + 1)))) h1 h3) (va_cwS 2 hts gX0_decipher_X0_unmix rfl rfl rfl (by decide +kernel) ⟨Nat.le_of_ble_eq_true rfl, Nat.le_of_ble_eq_true rfl⟩) (fun _ _ _ _ h => h) (fun _ _ _ _ => trivial) hK hP hD hS hA [2] [0, 1] rfl (by decide) rfl (by decide) (by decide) [0, 1, 2] rfl (by decide) rfl hl.1 rfl (Nat.le_of_ble_eq_true rfl) dX0_decipher_29 ⟨Nat.zero_le _, Nat.zero_le _⟩ (fun H locs hP hD hS => ?_)
            simp only [xb_eq, ld4_st4, st4_st4] at hP hD
            have hP : va_P D vwCl [(h0, .inr (0, [.ref kw, .int kb, .int kr, .ref sc, .ref so, .ref tp, .int tl, .ref ct, .ref sr])), (sc, .inl (cI, 140, .inl F)), (w, .inl (cI, n, .inl (st4 f at0 (cUnmix (cDecR F (ld4 f at0) (32 - (j + 1)))))))] H := hP
            have hD : va_D A [(h0, .inr (0, [.ref kw, .int kb, .int kr, .ref sc, .ref so, .ref tp, .int tl, .ref ct, .ref sr])), (sc, .inl (cI, 140, .inl F)), (w, .inl (cI, n, .inl (st4 f at0 (cUnmix (cDecR F (ld4 f at0) (32 - (j + 1)))))))] := hD
            refine lv_aload_n hx hb dX0_decipher_32 rfl (lv_at hl 1 rfl) ?_
            refine lv_iload_n hx hb dX0_decipher_33 rfl (lv_at hl 2 rfl) ?_
            refine lv_iload_n hx hb dX0_decipher_34 rfl (lv_at hl 3 rfl) ?_
            refine lv_bipush (v := nI 8) hx hb dX0_decipher_35 (by decide) ?_
            refine wk_iremN hx hb (a := j) (b := 8) (by omega) (by decide) (by decide) dX0_decipher_37 ?_
            refine lv_iconst (v := nI 1) hx hb dX0_decipher_38 (by decide) ?_
            refine wk_Sv (As := [.ref w, .int (nI at0), .int (nI (j % 8)), .int (nI 1)]) (rest := []) (wc := [(w, .inl (cI, n, .inl (st4 f at0 (cUnmix (cDecR F (ld4 f at0) (32 - (j + 1)))))))]) (wr := [(h0, .inr (0, [.ref kw, .int kb, .int kr, .ref sc, .ref so, .ref tp, .int tl, .ref ct, .ref sr])), (sc, .inl (cI, 140, .inl F))]) (w1 := [(w, .inl (cI, n, .inl (st4 (st4 f at0 (cUnmix (cDecR F (ld4 f at0) (32 - (j + 1))))) at0 (cBox 1 (j % 8) (ld4 (st4 f at0 (cUnmix (cDecR F (ld4 f at0) (32 - (j + 1))))) at0)))))]) (w2 := [(h0, .inr (0, [.ref kw, .int kb, .int kr, .ref sc, .ref so, .ref tp, .int tl, .ref ct, .ref sr])), (sc, .inl (cI, 140, .inl F)), (w, .inl (cI, n, .inl (st4 (st4 f at0 (cUnmix (cDecR F (ld4 f at0) (32 - (j + 1))))) at0 (cBox 1 (j % 8) (ld4 (st4 f at0 (cUnmix (cDecR F (ld4 f at0) (32 - (j + 1))))) at0)))))]) ⟨hx, hb, hml, hown, hts⟩ (c_X0_passBox1 l D cI tb _ w at0 (j % 8) n (st4 f at0 (cUnmix (cDecR F (ld4 f at0) (32 - (j + 1))))) h1 (Nat.mod_lt _ (by decide)) h3) (va_cwS 4 hts gX0_decipher_X0_passBox rfl rfl rfl (by decide +kernel) ⟨Nat.le_of_ble_eq_true rfl, Nat.le_of_ble_eq_true rfl⟩) (fun U g mk a h => bxs.call g mk a h) (fun hF U hU hW => hbx.give hS hF hU hW) hK hP hD hS hA [2] [0, 1] rfl (by decide) rfl (by decide) (by decide) [0, 1, 2] rfl (by decide) rfl hl.1 rfl (Nat.le_of_ble_eq_true rfl) dX0_decipher_39 ⟨Nat.zero_le _, Nat.zero_le _⟩ (fun H locs hP hD hS => ?_)
            simp only [xb_eq, ld4_st4, st4_st4] at hP hD
            have hP : va_P D vwCl [(h0, .inr (0, [.ref kw, .int kb, .int kr, .ref sc, .ref so, .ref tp, .int tl, .ref ct, .ref sr])), (sc, .inl (cI, 140, .inl F)), (w, .inl (cI, n, .inl (st4 f at0 (cBox 1 (j % 8) (cUnmix (cDecR F (ld4 f at0) (32 - (j + 1))))))))] H := hP
            have hD : va_D A [(h0, .inr (0, [.ref kw, .int kb, .int kr, .ref sc, .ref so, .ref tp, .int tl, .ref ct, .ref sr])), (sc, .inl (cI, 140, .inl F)), (w, .inl (cI, n, .inl (st4 f at0 (cBox 1 (j % 8) (cUnmix (cDecR F (ld4 f at0) (32 - (j + 1))))))))] := hD
            refine lv_aload_n hx hb dX0_decipher_42 rfl (lv_at hl 1 rfl) ?_
            refine lv_iload_n hx hb dX0_decipher_43 rfl (lv_at hl 2 rfl) ?_
            refine lv_aload_n hx hb dX0_decipher_44 rfl (lv_at hl 0 rfl) ?_
            refine va_get (D := D) (ci := 0) (v := .ref sc) (C := RX0) (T := TX0) (N := 9) hx hb hts hinX0 hown hK hP 0 rfl rfl 3 (by decide) (hts (.fieldLink RX0 13 "SlicedCipher" "schedule" "[I") (by decide +kernel)) (fun _ h9 => h9) rfl dX0_decipher_45 ?_
            refine lv_iload_n hx hb dX0_decipher_48 rfl (lv_at hl 3 rfl) ?_
            refine wk_Sp (v := nI (8 + 4 * j)) (As := [.int (nI j)]) (rest := [.ref sc, .int (nI at0), .ref w]) ⟨hx, hb, hml, hown, hts⟩ (c_X0_roundKeyAt l j) (va_cwS 1 hts gX0_decipher_X0_roundKeyAt rfl rfl rfl (by decide +kernel) ⟨Nat.le_of_ble_eq_true rfl, Nat.le_of_ble_eq_true rfl⟩) rfl hl.1 rfl (Nat.le_of_ble_eq_true rfl) dX0_decipher_49 ⟨Nat.zero_le _, Nat.zero_le _⟩ ?_
            refine wk_Sv (As := [.ref w, .int (nI at0), .ref sc, .int (nI (8 + 4 * j))]) (rest := []) (wc := [(w, .inl (cI, n, .inl (st4 f at0 (cBox 1 (j % 8) (cUnmix (cDecR F (ld4 f at0) (32 - (j + 1)))))))), (sc, .inl (cI, 140, .inl F))]) (wr := [(h0, .inr (0, [.ref kw, .int kb, .int kr, .ref sc, .ref so, .ref tp, .int tl, .ref ct, .ref sr]))]) (w1 := [(w, .inl (cI, n, .inl (xbF (st4 f at0 (cBox 1 (j % 8) (cUnmix (cDecR F (ld4 f at0) (32 - (j + 1)))))) at0 F (8 + 4 * j) 4))), (sc, .inl (cI, 140, .inl F))]) (w2 := [(h0, .inr (0, [.ref kw, .int kb, .int kr, .ref sc, .ref so, .ref tp, .int tl, .ref ct, .ref sr])), (sc, .inl (cI, 140, .inl F)), (w, .inl (cI, n, .inl (xbF (st4 f at0 (cBox 1 (j % 8) (cUnmix (cDecR F (ld4 f at0) (32 - (j + 1)))))) at0 F (8 + 4 * j) 4)))]) ⟨hx, hb, hml, hown, hts⟩ (c_X0_xorBlock l D cI _ w at0 sc (8 + 4 * j) n 140 (st4 f at0 (cBox 1 (j % 8) (cUnmix (cDecR F (ld4 f at0) (32 - (j + 1)))))) F h1 (by omega) h3 (by decide)) (va_cwS 4 hts gX0_decipher_X0_xorBlock rfl rfl rfl (by decide +kernel) ⟨Nat.le_of_ble_eq_true rfl, Nat.le_of_ble_eq_true rfl⟩) (fun _ _ _ _ h => h) (fun _ _ _ _ => trivial) hK hP hD hS hA [2, 1] [0] rfl (by decide) rfl (by decide) (by decide) [0, 2, 1] rfl (by decide) rfl hl.1 rfl (Nat.le_of_ble_eq_true rfl) dX0_decipher_52 ⟨Nat.zero_le _, Nat.zero_le _⟩ (fun H locs hP hD hS => ?_)
            simp only [xb_eq, ld4_st4, st4_st4] at hP hD
            have hP : va_P D vwCl [(h0, .inr (0, [.ref kw, .int kb, .int kr, .ref sc, .ref so, .ref tp, .int tl, .ref ct, .ref sr])), (sc, .inl (cI, 140, .inl F)), (w, .inl (cI, n, .inl (st4 f at0 (x4 (cBox 1 (j % 8) (cUnmix (cDecR F (ld4 f at0) (32 - (j + 1))))) (ld4 F (8 + 4 * j))))))] H := hP
            have hD : va_D A [(h0, .inr (0, [.ref kw, .int kb, .int kr, .ref sc, .ref so, .ref tp, .int tl, .ref ct, .ref sr])), (sc, .inl (cI, 140, .inl F)), (w, .inl (cI, n, .inl (st4 f at0 (x4 (cBox 1 (j % 8) (cUnmix (cDecR F (ld4 f at0) (32 - (j + 1))))) (ld4 F (8 + 4 * j))))))] := hD
            refine lv_iinc (v := nI j + Int32.ofInt (-1)) (lv' := [(3, .int (nI j + Int32.ofInt (-1))), (0, .ref h0), (1, .ref w), (2, .int (nI at0))]) hx hb dX0_decipher_55 hl (k := 3) rfl rfl (by decide) rfl (fun ls hl => ?_)
            refine lv_goto (tgt := 17) hx hb dX0_decipher_58 (by decide) ?_
            rw [← cDecR_lt F (ld4 f at0) c24] at hP hD
            exact ih j (by omega) (by omega) _ _ hP hD hS ls (lv_sub hl [1, 2, 3, 0] rfl)
  have hP : va_P D vwCl [(h0, .inr (0, [.ref kw, .int kb, .int kr, .ref sc, .ref so, .ref tp, .int tl, .ref ct, .ref sr])), (sc, .inl (cI, 140, .inl F)), (w, .inl (cI, n, .inl (st4 f at0 ((ld4 f at0)))))] s.heap := by rw [st4_ld4]; exact hP
  have hD : va_D A [(h0, .inr (0, [.ref kw, .int kb, .int kr, .ref sc, .ref so, .ref tp, .int tl, .ref ct, .ref sr])), (sc, .inl (cI, 140, .inl F)), (w, .inl (cI, n, .inl (st4 f at0 ((ld4 f at0)))))] := by rw [st4_ld4]; exact hD
  refine lv_aload_n hx hb dX0_decipher_0 rfl (lv_at hl 1 rfl) ?_
  refine lv_iload_n hx hb dX0_decipher_1 rfl (lv_at hl 2 rfl) ?_
  refine lv_aload_n hx hb dX0_decipher_2 rfl (lv_at hl 0 rfl) ?_
  refine va_get (D := D) (ci := 0) (v := .ref sc) (C := RX0) (T := TX0) (N := 9) hx hb hts hinX0 hown hK hP 0 rfl rfl 3 (by decide) (hts (.fieldLink RX0 13 "SlicedCipher" "schedule" "[I") (by decide +kernel)) (fun _ h9 => h9) rfl dX0_decipher_3 ?_
  refine lv_bipush (v := nI 32) hx hb dX0_decipher_6 (by decide) ?_
  refine wk_Sp (v := nI (8 + 4 * 32)) (As := [.int (nI 32)]) (rest := [.ref sc, .int (nI at0), .ref w]) ⟨hx, hb, hml, hown, hts⟩ (c_X0_roundKeyAt l 32) (va_cwS 1 hts gX0_decipher_X0_roundKeyAt rfl rfl rfl (by decide +kernel) ⟨Nat.le_of_ble_eq_true rfl, Nat.le_of_ble_eq_true rfl⟩) rfl hl.1 rfl (Nat.le_of_ble_eq_true rfl) dX0_decipher_8 ⟨Nat.zero_le _, Nat.zero_le _⟩ ?_
  refine wk_Sv (As := [.ref w, .int (nI at0), .ref sc, .int (nI (8 + 4 * 32))]) (rest := []) (wc := [(w, .inl (cI, n, .inl (st4 f at0 ((ld4 f at0))))), (sc, .inl (cI, 140, .inl F))]) (wr := [(h0, .inr (0, [.ref kw, .int kb, .int kr, .ref sc, .ref so, .ref tp, .int tl, .ref ct, .ref sr]))]) (w1 := [(w, .inl (cI, n, .inl (xbF (st4 f at0 ((ld4 f at0))) at0 F (8 + 4 * 32) 4))), (sc, .inl (cI, 140, .inl F))]) (w2 := [(h0, .inr (0, [.ref kw, .int kb, .int kr, .ref sc, .ref so, .ref tp, .int tl, .ref ct, .ref sr])), (sc, .inl (cI, 140, .inl F)), (w, .inl (cI, n, .inl (xbF (st4 f at0 ((ld4 f at0))) at0 F (8 + 4 * 32) 4)))]) ⟨hx, hb, hml, hown, hts⟩ (c_X0_xorBlock l D cI _ w at0 sc (8 + 4 * 32) n 140 (st4 f at0 ((ld4 f at0))) F h1 (by omega) h3 (by decide)) (va_cwS 4 hts gX0_decipher_X0_xorBlock rfl rfl rfl (by decide +kernel) ⟨Nat.le_of_ble_eq_true rfl, Nat.le_of_ble_eq_true rfl⟩) (fun _ _ _ _ h => h) (fun _ _ _ _ => trivial) hK hP hD hS hA [2, 1] [0] rfl (by decide) rfl (by decide) (by decide) [0, 2, 1] rfl (by decide) rfl hl.1 rfl (Nat.le_of_ble_eq_true rfl) dX0_decipher_11 ⟨Nat.zero_le _, Nat.zero_le _⟩ (fun H locs hP hD hS => ?_)
  simp only [xb_eq, ld4_st4, st4_st4] at hP hD
  have hP : va_P D vwCl [(h0, .inr (0, [.ref kw, .int kb, .int kr, .ref sc, .ref so, .ref tp, .int tl, .ref ct, .ref sr])), (sc, .inl (cI, 140, .inl F)), (w, .inl (cI, n, .inl (st4 f at0 (x4 ((ld4 f at0)) (ld4 F (8 + 4 * 32))))))] H := hP
  have hD : va_D A [(h0, .inr (0, [.ref kw, .int kb, .int kr, .ref sc, .ref so, .ref tp, .int tl, .ref ct, .ref sr])), (sc, .inl (cI, 140, .inl F)), (w, .inl (cI, n, .inl (st4 f at0 (x4 ((ld4 f at0)) (ld4 F (8 + 4 * 32))))))] := hD
  refine lv_bipush (v := nI 31) hx hb dX0_decipher_14 (by decide) ?_
  refine lv_istore_n (lv' := [(3, .int (nI 31)), (0, .ref h0), (1, .ref w), (2, .int (nI at0))]) hx hb dX0_decipher_16 rfl hl (by decide) rfl (fun ls hl => ?_)
  exact lp 33 32 (by omega) (by omega) _ _ hP hD hS ls (lv_sub hl [1, 2, 3, 0] rfl)
end
section
/-! the key's bytes and words, the spread, the round keys, as the class makes them -/
def cKB (K : Nat → Int32) (kb n : Nat) : Int32 := if n < kb then (((K (n / 4)).toUInt32 >>> ((nI (8 * (n % 4))).toUInt32 &&& Int32.toUInt32 31)).toInt32) &&& nI 255 else if n = kb then nI 1 else nI 0
def cKW (K : Nat → Int32) (kb wd : Nat) : Nat → Int32
  | 0 => nI 0
  | i + 1 => cKW K kb wd i ||| (cKB K kb ((4 * wd) + i) <<< (nI (8 * i) &&& 31))
def cSp (F : Nat → Int32) : Nat → Nat → Int32
  | 0 => F
  | i + 1 => upd (cSp F i) (i + 8) (rotL ((((((cSp F i ((i + 8) - 8)) ^^^ (cSp F i ((i + 8) - 5))) ^^^ (cSp F i ((i + 8) - 3))) ^^^ (cSp F i ((i + 8) - 1))) ^^^ (-1640531527)) ^^^ nI i) (nI 11))
def cR1 (F K : Nat → Int32) (kb : Nat) : Nat → Nat → Int32
  | 0 => F
  | i + 1 => upd (cR1 F K kb i) i (cKW K kb i 4)
def cRk (F : Nat → Int32) : Nat → Nat → Int32
  | 0 => F
  | r + 1 => st4 (cRk F r) (8 + 4 * r) (cBox 0 ((35 - r) % 8) (ld4 (cRk F r) (8 + 4 * r)))
def cSrc (wh : Nat) (v : Int32) : Nat → Nat
  | 0 => 0
  | i + 1 => if TB ((wh * 16) + i) = v then i else cSrc wh v i
set_option maxRecDepth 100000 in
theorem in_X0_paddedKeyByte : ∀ w ∈ wsX00, w ∈ wsX0_paddedKeyByte := by decide +kernel
set_option maxHeartbeats 4000000 in
set_option maxRecDepth 100000 in
theorem c_X0_paddedKeyByte (l : Launch) (D : va_G) (cI : ClassId) (sz : Nat) (h0 kw sc so tp ct sr : Nat) (kr tl : Int32) (kb : Nat) (n : Nat) (K : Nat → Int32) (h1 : n < 32) (h2 : kb ≤ 32) : Met l yX0_paddedKeyByte wsX0_paddedKeyByte ({ frames := 0, cells := 0, slots := 0, locals := 0 }) (va_Pc [.ref h0, .int (nI n)] (fun U => PW D [(cI, .int)] [(h0, .inr (0, [.ref kw, .int (nI kb), .int kr, .ref sc, .ref so, .ref tp, .int tl, .ref ct, .ref sr])), (kw, .inl (cI, 8, .inl K))] sz U ∧ True)) (vp_Si (fun r9 => r9 = cKB K kb n)) 0 0 (fun _ => False) := by
  refine Met.ofW (cc := cX0_paddedKeyByte) (maxL := 2) (ret := (some .int)) (by decide) rfl ?_
  intro p e s m args below meth c s₁ B hml hv
  obtain ⟨rfl, ⟨hsz, hP, hK, hD0⟩, -⟩ := hv
  have hx := B.exec
  have hb := B.bytes
  have hr := B.returns
  have hts := atoms_spec (ws := wsX0_paddedKeyByte) B.pre
  have hown : s.vm.findClass RX0 = some m.cls := findClass_of_methodNamed B.named
  have hlocks := B.notSynchronized
  subst hsz
  have hD := hD0.self (sz := s.heap.size)
  have hinX0 := in_X0_paddedKeyByte
  generalize hAe : va_A [(h0, .inr (0, [.ref kw, .int (nI kb), .int kr, .ref sc, .ref so, .ref tp, .int tl, .ref ct, .ref sr])), (kw, .inl (cI, 8, .inl K))] s.heap.size = A at hD
  have hA : ∀ q : Nat, s.heap.size ≤ q → A q := fun q h => by rw [← hAe]; exact Or.inr h
  have hS : va_S A s.heap s.heap [] := va_S.rf
  have hl := lv_entry ([.ref h0, .int (nI n)]) (n := 2) (Nat.le_of_ble_eq_true rfl)
  rw [lg_entry_eq]
  generalize (lg_sl ([.ref h0, .int (nI n)]) ++ List.replicate (2 - (lg_sl ([.ref h0, .int (nI n)])).length) Slot.unset).toArray = ls at hl ⊢
  have hl : lv_has ls 2 [(0, .ref h0), (1, .int (nI n))] := hl
  refine lv_iload_n hx hb dX0_paddedKeyByte_0 rfl (lv_at hl 1 rfl) ?_
  refine lv_aload_n hx hb dX0_paddedKeyByte_1 rfl (lv_at hl 0 rfl) ?_
  refine va_get (D := D) (ci := 0) (v := .int (nI kb)) (C := RX0) (T := TX0) (N := 9) hx hb hts hinX0 hown hK hP 0 rfl rfl 1 (by decide) (hts (.fieldLink RX0 28 "SlicedCipher" "keyBytes" "I") (by decide +kernel)) (fun _ h9 => h9) rfl dX0_paddedKeyByte_2 ?_
  refine wk_geN (tgt := 28) hx hb (a := n) (b := kb) (by omega) (by omega) dX0_paddedKeyByte_5 (by decide) (fun c5 => ?_) (fun c5 => ?_)
  · refine lv_iload_n hx hb dX0_paddedKeyByte_28 rfl (lv_at hl 1 rfl) ?_
    refine lv_aload_n hx hb dX0_paddedKeyByte_29 rfl (lv_at hl 0 rfl) ?_
    refine va_get (D := D) (ci := 0) (v := .int (nI kb)) (C := RX0) (T := TX0) (N := 9) hx hb hts hinX0 hown hK hP 0 rfl rfl 1 (by decide) (hts (.fieldLink RX0 28 "SlicedCipher" "keyBytes" "I") (by decide +kernel)) (fun _ h9 => h9) rfl dX0_paddedKeyByte_30 ?_
    refine wk_neN (tgt := 40) hx hb (a := n) (b := kb) (by omega) (by omega) dX0_paddedKeyByte_33 (by decide) (fun c33 => ?_) (fun c33 => ?_)
    · refine lv_iconst (v := nI 0) hx hb dX0_paddedKeyByte_40 (by decide) ?_
      exact W.iret (v := nI 0) hx hb hr (fun t ht hW => ⟨_, rfl, by unfold cKB; rw [if_neg (Nat.not_lt.mpr c5), if_neg c33], ht⟩) (fun q h => absurd h List.not_mem_nil) dX0_paddedKeyByte_41
    · refine lv_iconst (v := nI 1) hx hb dX0_paddedKeyByte_36 (by decide) ?_
      refine lv_goto (tgt := 41) hx hb dX0_paddedKeyByte_37 (by decide) ?_
      exact W.iret (v := nI 1) hx hb hr (fun t ht hW => ⟨_, rfl, by unfold cKB; rw [if_neg (Nat.not_lt.mpr c5), if_pos c33], ht⟩) (fun q h => absurd h List.not_mem_nil) dX0_paddedKeyByte_41
  · refine lv_aload_n hx hb dX0_paddedKeyByte_8 rfl (lv_at hl 0 rfl) ?_
    refine va_get (D := D) (ci := 0) (v := .ref kw) (C := RX0) (T := TX0) (N := 9) hx hb hts hinX0 hown hK hP 0 rfl rfl 0 (by decide) (hts (.fieldLink RX0 9 "SlicedCipher" "keyWords" "[I") (by decide +kernel)) (fun _ h9 => h9) rfl dX0_paddedKeyByte_9 ?_
    refine lv_iload_n hx hb dX0_paddedKeyByte_12 rfl (lv_at hl 1 rfl) ?_
    refine lv_iconst (v := nI 4) hx hb dX0_paddedKeyByte_13 (by decide) ?_
    refine wk_idivN hx hb (a := n) (b := 4) (by omega) (by decide) (by decide) dX0_paddedKeyByte_14 ?_
    refine wk_iald hx hb hK hP 1 0 rfl rfl (k := n / 4) (by omega) (by decide) dX0_paddedKeyByte_15 ?_
    refine lv_bipush (v := nI 8) hx hb dX0_paddedKeyByte_16 (by decide) ?_
    refine lv_iload_n hx hb dX0_paddedKeyByte_18 rfl (lv_at hl 1 rfl) ?_
    refine lv_iconst (v := nI 4) hx hb dX0_paddedKeyByte_19 (by decide) ?_
    refine wk_iremN hx hb (a := n) (b := 4) (by omega) (by decide) (by decide) dX0_paddedKeyByte_20 ?_
    refine wk_imulN hx hb (a := 8) (b := n % 4) dX0_paddedKeyByte_21 ?_
    refine lv_iushr (v := ((K (n / 4)).toUInt32 >>> ((nI (8 * (n % 4))).toUInt32 &&& Int32.toUInt32 31)).toInt32) hx hb dX0_paddedKeyByte_22 rfl ?_
    refine lv_sipush (v := nI 255) hx hb dX0_paddedKeyByte_23 (by decide) ?_
    refine lv_iand hx hb dX0_paddedKeyByte_26 ?_
    exact W.iret (v := (((K (n / 4)).toUInt32 >>> ((nI (8 * (n % 4))).toUInt32 &&& Int32.toUInt32 31)).toInt32) &&& (nI 255)) hx hb hr (fun t ht hW => ⟨_, rfl, (if_pos c5).symm, ht⟩) (fun q h => absurd h List.not_mem_nil) dX0_paddedKeyByte_27
set_option maxRecDepth 100000 in
theorem in_X0_paddedKeyWord : ∀ w ∈ wsX00, w ∈ wsX0_paddedKeyWord := by decide +kernel
set_option maxHeartbeats 4000000 in
set_option maxRecDepth 100000 in
theorem c_X0_paddedKeyWord (l : Launch) (D : va_G) (cI : ClassId) (sz : Nat) (h0 kw sc so tp ct sr : Nat) (kr tl : Int32) (kb : Nat) (wd : Nat) (K : Nat → Int32) (h1 : wd < 8) (h2 : kb ≤ 32) : Met l yX0_paddedKeyWord wsX0_paddedKeyWord ({ frames := 1, cells := 0, slots := 0, locals := 21 }) (va_Pc [.ref h0, .int (nI wd)] (fun U => PW D [(cI, .int)] [(h0, .inr (0, [.ref kw, .int (nI kb), .int kr, .ref sc, .ref so, .ref tp, .int tl, .ref ct, .ref sr])), (kw, .inl (cI, 8, .inl K))] sz U ∧ True)) (vp_Si (fun r9 => r9 = cKW K kb wd 4)) 0 0 (fun _ => False) := by
  refine Met.ofW (cc := cX0_paddedKeyWord) (maxL := 4) (ret := (some .int)) (by decide) rfl ?_
  intro p e s m args below meth c s₁ B hml hv
  obtain ⟨rfl, ⟨hsz, hP, hK, hD0⟩, -⟩ := hv
  have hx := B.exec
  have hb := B.bytes
  have hr := B.returns
  have hts := atoms_spec (ws := wsX0_paddedKeyWord) B.pre
  have hown : s.vm.findClass RX0 = some m.cls := findClass_of_methodNamed B.named
  have hlocks := B.notSynchronized
  subst hsz
  have hD := hD0.self (sz := s.heap.size)
  have hinX0 := in_X0_paddedKeyWord
  generalize hAe : va_A [(h0, .inr (0, [.ref kw, .int (nI kb), .int kr, .ref sc, .ref so, .ref tp, .int tl, .ref ct, .ref sr])), (kw, .inl (cI, 8, .inl K))] s.heap.size = A at hD
  have hA : ∀ q : Nat, s.heap.size ≤ q → A q := fun q h => by rw [← hAe]; exact Or.inr h
  have hS : va_S A s.heap s.heap [] := va_S.rf
  have hl := lv_entry ([.ref h0, .int (nI wd)]) (n := 4) (Nat.le_of_ble_eq_true rfl)
  rw [lg_entry_eq]
  generalize (lg_sl ([.ref h0, .int (nI wd)]) ++ List.replicate (4 - (lg_sl ([.ref h0, .int (nI wd)])).length) Slot.unset).toArray = ls at hl ⊢
  have hl : lv_has ls 4 [(0, .ref h0), (1, .int (nI wd))] := hl
  have lp : ∀ (fu : Nat) (i : Nat), i ≤ 4 → 4 + 1 ≤ i + fu → ∀ (ls : Array Slot), lv_has ls 4 [(0, .ref h0), (1, .int (nI wd)), (2, .int (cKW K kb wd i)), (3, .int (nI i))] → W p l e ((headSpec wsX0_paddedKeyWord ({ frames := 1, cells := 0, slots := 0, locals := 21 })).room) s m ([.ref h0, .int (nI wd)] : List Value).toArray below meth c s.heap [] 0 0 (MQ below (vp_Si (fun r9 => r9 = cKW K kb wd 4)) ([.ref h0, .int (nI wd)] : List Value).toArray s 0 0 (fun _ => False)) (F0 m 4 ls []) := by
    intro fu
    induction fu with
      | zero => intro i hi hfu; exact absurd hfu (by omega)
      | succ fu ih =>
        intro i hi hfu ls hl
        refine lv_iload_n hx hb dX0_paddedKeyWord_4 rfl (lv_at hl 3 rfl) ?_
        refine lv_iconst (v := nI 4) hx hb dX0_paddedKeyWord_5 (by decide) ?_
        refine wk_geN (tgt := 32) hx hb (a := i) (b := 4) (by omega) (by decide) dX0_paddedKeyWord_6 (by decide) (fun c6 => ?_) (fun c6 => ?_)
        · obtain rfl : i = 4 := by omega
          refine lv_iload_n hx hb dX0_paddedKeyWord_32 rfl (lv_at hl 2 rfl) ?_
          exact W.iret (v := cKW K kb wd 4) hx hb hr (fun t ht hW => ⟨_, rfl, rfl, ht⟩) (fun q h => absurd h List.not_mem_nil) dX0_paddedKeyWord_33
        · refine lv_iload_n hx hb dX0_paddedKeyWord_9 rfl (lv_at hl 2 rfl) ?_
          refine lv_aload_n hx hb dX0_paddedKeyWord_10 rfl (lv_at hl 0 rfl) ?_
          refine lv_iconst (v := nI 4) hx hb dX0_paddedKeyWord_11 (by decide) ?_
          refine lv_iload_n hx hb dX0_paddedKeyWord_12 rfl (lv_at hl 1 rfl) ?_
          refine wk_imulN hx hb (a := 4) (b := wd) dX0_paddedKeyWord_13 ?_
          refine lv_iload_n hx hb dX0_paddedKeyWord_14 rfl (lv_at hl 3 rfl) ?_
          refine wk_iaddN hx hb (a := 4 * wd) (b := i) dX0_paddedKeyWord_15 ?_
          refine wk_Vi (b := h0) (As := [.int (nI ((4 * wd) + i))]) (rest := [.int (cKW K kb wd i)]) (wc := [(h0, .inr (0, [.ref kw, .int (nI kb), .int kr, .ref sc, .ref so, .ref tp, .int tl, .ref ct, .ref sr])), (kw, .inl (cI, 8, .inl K))]) (ci := 0) (q0 := 0) ⟨hx, hb, hml, hown, hts⟩ (c_X0_paddedKeyByte l D cI _ h0 kw sc so tp ct sr kr tl kb ((4 * wd) + i) K (by omega) h2) (cwV 1 hts gX0_paddedKeyWord_X0_paddedKeyByte rfl rfl rfl (by decide +kernel) ⟨Nat.le_of_ble_eq_true rfl, Nat.le_of_ble_eq_true rfl⟩) (fun _ _ _ _ h => h) (fun _ _ _ => trivial) hK hP hD rfl rfl [0, 1] rfl (by decide) rfl hl.1 rfl (Nat.le_of_ble_eq_true rfl) dX0_paddedKeyWord_16 ⟨Nat.zero_le _, Nat.zero_le _⟩ (fun z9 hz9 => ?_)
          refine wk_i (y := cKB K kb ((4 * wd) + i)) hz9 ?_
          refine lv_bipush (v := nI 8) hx hb dX0_paddedKeyWord_19 (by decide) ?_
          refine lv_iload_n hx hb dX0_paddedKeyWord_21 rfl (lv_at hl 3 rfl) ?_
          refine wk_imulN hx hb (a := 8) (b := i) dX0_paddedKeyWord_22 ?_
          refine lv_ishl hx hb dX0_paddedKeyWord_23 ?_
          refine lv_ior hx hb dX0_paddedKeyWord_24 ?_
          refine wk_i (y := cKW K kb wd (i + 1)) (rfl) ?_
          refine lv_istore_n (lv' := [(2, .int (cKW K kb wd (i + 1))), (0, .ref h0), (1, .int (nI wd)), (3, .int (nI i))]) hx hb dX0_paddedKeyWord_25 rfl hl (by decide) rfl (fun ls hl => ?_)
          refine lv_iinc (v := nI (i + 1)) (lv' := [(3, .int (nI (i + 1))), (2, .int (cKW K kb wd (i + 1))), (0, .ref h0), (1, .int (nI wd))]) hx hb dX0_paddedKeyWord_26 hl (k := 3) rfl (wk_inc i (by decide)) (by decide) rfl (fun ls hl => ?_)
          refine lv_goto (tgt := 4) hx hb dX0_paddedKeyWord_29 (by decide) ?_
          exact ih (i + 1) (by omega) (by omega) ls (lv_sub hl [2, 3, 1, 0] rfl)
  refine lv_iconst (v := nI 0) hx hb dX0_paddedKeyWord_0 (by decide) ?_
  refine lv_istore_n (lv' := [(2, .int (nI 0)), (0, .ref h0), (1, .int (nI wd))]) hx hb dX0_paddedKeyWord_1 rfl hl (by decide) rfl (fun ls hl => ?_)
  refine lv_iconst (v := nI 0) hx hb dX0_paddedKeyWord_2 (by decide) ?_
  refine lv_istore_n (lv' := [(3, .int (nI 0)), (2, .int (nI 0)), (0, .ref h0), (1, .int (nI wd))]) hx hb dX0_paddedKeyWord_3 rfl hl (by decide) rfl (fun ls hl => ?_)
  exact lp 5 0 (by omega) (by omega) ls (lv_sub hl [2, 3, 1, 0] rfl)
set_option maxRecDepth 100000 in
theorem in_X0_spreadKey : ∀ w ∈ wsX00, w ∈ wsX0_spreadKey := by decide +kernel
set_option maxHeartbeats 4000000 in
set_option maxRecDepth 100000 in
theorem c_X0_spreadKey (l : Launch) (D : va_G) (cI : ClassId) (sz : Nat) (h0 kw sc so tp ct sr : Nat) (kb kr tl : Int32) (F : Nat → Int32) : Met l yX0_spreadKey wsX0_spreadKey ({ frames := 1, cells := 0, slots := 0, locals := 21 }) (va_Pc [.ref h0] (fun U => PW D [(cI, .int)] [(h0, .inr (0, [.ref kw, .int kb, .int kr, .ref sc, .ref so, .ref tp, .int tl, .ref ct, .ref sr])), (sc, .inl (cI, 140, .inl F))] sz U ∧ True)) (va_Qv (fun _ : Unit => True) (fun _ => BW D [(cI, .int)] (va_A [(h0, .inr (0, [.ref kw, .int kb, .int kr, .ref sc, .ref so, .ref tp, .int tl, .ref ct, .ref sr])), (sc, .inl (cI, 140, .inl F))] sz) [(h0, .inr (0, [.ref kw, .int kb, .int kr, .ref sc, .ref so, .ref tp, .int tl, .ref ct, .ref sr])), (sc, .inl (cI, 140, .inl (cSp F 132)))]) (va_A [(h0, .inr (0, [.ref kw, .int kb, .int kr, .ref sc, .ref so, .ref tp, .int tl, .ref ct, .ref sr])), (sc, .inl (cI, 140, .inl F))] sz)) 0 0 (va_A [(h0, .inr (0, [.ref kw, .int kb, .int kr, .ref sc, .ref so, .ref tp, .int tl, .ref ct, .ref sr])), (sc, .inl (cI, 140, .inl F))] sz) := by
  refine Met.ofW (cc := cX0_spreadKey) (maxL := 4) (ret := none) (by decide) rfl ?_
  intro p e s m args below meth c s₁ B hml hv
  obtain ⟨rfl, ⟨hsz, hP, hK, hD0⟩, -⟩ := hv
  have hx := B.exec
  have hb := B.bytes
  have hr := B.returns
  have hts := atoms_spec (ws := wsX0_spreadKey) B.pre
  have hown : s.vm.findClass RX0 = some m.cls := findClass_of_methodNamed B.named
  have hlocks := B.notSynchronized
  subst hsz
  have hD := hD0.self (sz := s.heap.size)
  have hinX0 := in_X0_spreadKey
  generalize hAe : va_A [(h0, .inr (0, [.ref kw, .int kb, .int kr, .ref sc, .ref so, .ref tp, .int tl, .ref ct, .ref sr])), (sc, .inl (cI, 140, .inl F))] s.heap.size = A at hD ⊢
  have hA : ∀ q : Nat, s.heap.size ≤ q → A q := fun q h => by rw [← hAe]; exact Or.inr h
  have hS : va_S A s.heap s.heap [] := va_S.rf
  have hl := lv_entry ([.ref h0]) (n := 4) (Nat.le_of_ble_eq_true rfl)
  rw [lg_entry_eq]
  generalize (lg_sl ([.ref h0]) ++ List.replicate (4 - (lg_sl ([.ref h0])).length) Slot.unset).toArray = ls at hl ⊢
  have hl : lv_has ls 4 [(0, .ref h0)] := hl
  have lp : ∀ (fu : Nat) (i : Nat), i ≤ 132 → 132 + 1 ≤ i + fu → ∀ (H : Heap) (locs : List Loc), va_P D vwCl [(h0, .inr (0, [.ref kw, .int kb, .int kr, .ref sc, .ref so, .ref tp, .int tl, .ref ct, .ref sr])), (sc, .inl (cI, 140, .inl (cSp F i)))] H → va_D A [(h0, .inr (0, [.ref kw, .int kb, .int kr, .ref sc, .ref so, .ref tp, .int tl, .ref ct, .ref sr])), (sc, .inl (cI, 140, .inl (cSp F i)))] → va_S A s.heap H locs → ∀ (ls : Array Slot), lv_has ls 4 [(0, .ref h0), (1, .int (nI i))] → W p l e ((headSpec wsX0_spreadKey ({ frames := 1, cells := 0, slots := 0, locals := 21 })).room) s m ([.ref h0] : List Value).toArray below meth c H locs 0 0 (MQ below (va_Qv (fun _ : Unit => True) (fun _ => BW D [(cI, .int)] A [(h0, .inr (0, [.ref kw, .int kb, .int kr, .ref sc, .ref so, .ref tp, .int tl, .ref ct, .ref sr])), (sc, .inl (cI, 140, .inl (cSp F 132)))]) A) ([.ref h0] : List Value).toArray s 0 0 (A)) (F0 m 2 ls []) := by
    intro fu
    induction fu with
      | zero => intro i hi hfu; exact absurd hfu (by omega)
      | succ fu ih =>
        intro i hi hfu H locs hP hD hS ls hl
        refine lv_iload_n hx hb dX0_spreadKey_2 rfl (lv_at hl 1 rfl) ?_
        refine lv_sipush (v := nI 132) hx hb dX0_spreadKey_3 (by decide) ?_
        refine wk_geN (tgt := 74) hx hb (a := i) (b := 132) (by omega) (by decide) dX0_spreadKey_6 (by decide) (fun c6 => ?_) (fun c6 => ?_)
        · obtain rfl : i = 132 := by omega
          exact W.vret hx hb hr (fun t ht hW => ⟨⟨(), rfl, trivial, by rw [ht]; exact hP, va_K.moved hW.alike hK, hD⟩, hS.F ht⟩) hS.2.2 dX0_spreadKey_74
        · refine lv_iload_n hx hb dX0_spreadKey_9 rfl (lv_at hl 1 rfl) ?_
          refine lv_bipush (v := nI 8) hx hb dX0_spreadKey_10 (by decide) ?_
          refine wk_iaddN hx hb (a := i) (b := 8) dX0_spreadKey_12 ?_
          refine lv_istore_n (lv' := [(2, .int (nI (i + 8))), (0, .ref h0), (1, .int (nI i))]) hx hb dX0_spreadKey_13 rfl hl (by decide) rfl (fun ls hl => ?_)
          refine lv_aload_n hx hb dX0_spreadKey_14 rfl (lv_at hl 1 rfl) ?_
          refine va_get (D := D) (ci := 0) (v := .ref sc) (C := RX0) (T := TX0) (N := 9) hx hb hts hinX0 hown hK hP 0 rfl rfl 3 (by decide) (hts (.fieldLink RX0 13 "SlicedCipher" "schedule" "[I") (by decide +kernel)) (fun _ h9 => h9) rfl dX0_spreadKey_15 ?_
          refine lv_iload_n hx hb dX0_spreadKey_18 rfl (lv_at hl 0 rfl) ?_
          refine lv_bipush (v := nI 8) hx hb dX0_spreadKey_19 (by decide) ?_
          refine wk_isubN hx hb (a := i + 8) (b := 8) (by omega) dX0_spreadKey_21 ?_
          refine wk_iald hx hb hK hP 1 0 rfl rfl (k := (i + 8) - 8) (by omega) (by decide) dX0_spreadKey_22 ?_
          refine lv_aload_n hx hb dX0_spreadKey_23 rfl (lv_at hl 1 rfl) ?_
          refine va_get (D := D) (ci := 0) (v := .ref sc) (C := RX0) (T := TX0) (N := 9) hx hb hts hinX0 hown hK hP 0 rfl rfl 3 (by decide) (hts (.fieldLink RX0 13 "SlicedCipher" "schedule" "[I") (by decide +kernel)) (fun _ h9 => h9) rfl dX0_spreadKey_24 ?_
          refine lv_iload_n hx hb dX0_spreadKey_27 rfl (lv_at hl 0 rfl) ?_
          refine lv_iconst (v := nI 5) hx hb dX0_spreadKey_28 (by decide) ?_
          refine wk_isubN hx hb (a := i + 8) (b := 5) (by omega) dX0_spreadKey_29 ?_
          refine wk_iald hx hb hK hP 1 0 rfl rfl (k := (i + 8) - 5) (by omega) (by decide) dX0_spreadKey_30 ?_
          refine lv_ixor hx hb dX0_spreadKey_31 ?_
          refine lv_aload_n hx hb dX0_spreadKey_32 rfl (lv_at hl 1 rfl) ?_
          refine va_get (D := D) (ci := 0) (v := .ref sc) (C := RX0) (T := TX0) (N := 9) hx hb hts hinX0 hown hK hP 0 rfl rfl 3 (by decide) (hts (.fieldLink RX0 13 "SlicedCipher" "schedule" "[I") (by decide +kernel)) (fun _ h9 => h9) rfl dX0_spreadKey_33 ?_
          refine lv_iload_n hx hb dX0_spreadKey_36 rfl (lv_at hl 0 rfl) ?_
          refine lv_iconst (v := nI 3) hx hb dX0_spreadKey_37 (by decide) ?_
          refine wk_isubN hx hb (a := i + 8) (b := 3) (by omega) dX0_spreadKey_38 ?_
          refine wk_iald hx hb hK hP 1 0 rfl rfl (k := (i + 8) - 3) (by omega) (by decide) dX0_spreadKey_39 ?_
          refine lv_ixor hx hb dX0_spreadKey_40 ?_
          refine lv_aload_n hx hb dX0_spreadKey_41 rfl (lv_at hl 1 rfl) ?_
          refine va_get (D := D) (ci := 0) (v := .ref sc) (C := RX0) (T := TX0) (N := 9) hx hb hts hinX0 hown hK hP 0 rfl rfl 3 (by decide) (hts (.fieldLink RX0 13 "SlicedCipher" "schedule" "[I") (by decide +kernel)) (fun _ h9 => h9) rfl dX0_spreadKey_42 ?_
          refine lv_iload_n hx hb dX0_spreadKey_45 rfl (lv_at hl 0 rfl) ?_
          refine lv_iconst (v := nI 1) hx hb dX0_spreadKey_46 (by decide) ?_
          refine wk_isubN hx hb (a := i + 8) (b := 1) (by omega) dX0_spreadKey_47 ?_
          refine wk_iald hx hb hK hP 1 0 rfl rfl (k := (i + 8) - 1) (by omega) (by decide) dX0_spreadKey_48 ?_
          refine lv_ixor hx hb dX0_spreadKey_49 ?_
          refine lv_istore_n (lv' := [(3, .int (((((cSp F i) ((i + 8) - 8)) ^^^ ((cSp F i) ((i + 8) - 5))) ^^^ ((cSp F i) ((i + 8) - 3))) ^^^ ((cSp F i) ((i + 8) - 1)))), (2, .int (nI (i + 8))), (0, .ref h0), (1, .int (nI i))]) hx hb dX0_spreadKey_50 rfl hl (by decide) rfl (fun ls hl => ?_)
          refine lv_aload_n hx hb dX0_spreadKey_51 rfl (lv_at hl 2 rfl) ?_
          refine va_get (D := D) (ci := 0) (v := .ref sc) (C := RX0) (T := TX0) (N := 9) hx hb hts hinX0 hown hK hP 0 rfl rfl 3 (by decide) (hts (.fieldLink RX0 13 "SlicedCipher" "schedule" "[I") (by decide +kernel)) (fun _ h9 => h9) rfl dX0_spreadKey_52 ?_
          refine lv_iload_n hx hb dX0_spreadKey_55 rfl (lv_at hl 1 rfl) ?_
          refine lv_iload_n hx hb dX0_spreadKey_56 rfl (lv_at hl 0 rfl) ?_
          refine lv_ldc (v := -1640531527) hx hb hown (hts (.constant RX0 132 (-1640531527)) (by decide +kernel)) dX0_spreadKey_57 ?_
          refine lv_ixor hx hb dX0_spreadKey_59 ?_
          refine lv_iload_n hx hb dX0_spreadKey_60 rfl (lv_at hl 3 rfl) ?_
          refine lv_ixor hx hb dX0_spreadKey_61 ?_
          refine lv_bipush (v := nI 11) hx hb dX0_spreadKey_62 (by decide) ?_
          refine wk_Sp (v := rotL (((((((cSp F i) ((i + 8) - 8)) ^^^ ((cSp F i) ((i + 8) - 5))) ^^^ ((cSp F i) ((i + 8) - 3))) ^^^ ((cSp F i) ((i + 8) - 1))) ^^^ ((-1640531527))) ^^^ (nI i)) (nI 11)) (As := [.int (((((((cSp F i) ((i + 8) - 8)) ^^^ ((cSp F i) ((i + 8) - 5))) ^^^ ((cSp F i) ((i + 8) - 3))) ^^^ ((cSp F i) ((i + 8) - 1))) ^^^ ((-1640531527))) ^^^ (nI i)), .int (nI 11)]) (rest := [.int (nI (i + 8)), .ref sc]) ⟨hx, hb, hml, hown, hts⟩ (c_J6_rotateLeft l (((((((cSp F i) ((i + 8) - 8)) ^^^ ((cSp F i) ((i + 8) - 5))) ^^^ ((cSp F i) ((i + 8) - 3))) ^^^ ((cSp F i) ((i + 8) - 1))) ^^^ ((-1640531527))) ^^^ (nI i)) (nI 11)) (va_cwS 2 hts gX0_spreadKey_J6_rotateLeft_7cf53 rfl rfl rfl (by decide +kernel) ⟨Nat.le_of_ble_eq_true rfl, Nat.le_of_ble_eq_true rfl⟩) rfl hl.1 rfl (Nat.le_of_ble_eq_true rfl) dX0_spreadKey_64 ⟨Nat.zero_le _, Nat.zero_le _⟩ ?_
          refine wk_iast hx hb hK hP hD hS 1 0 rfl rfl (k := i + 8) (x := rotL (((((((cSp F i) ((i + 8) - 8)) ^^^ ((cSp F i) ((i + 8) - 5))) ^^^ ((cSp F i) ((i + 8) - 3))) ^^^ ((cSp F i) ((i + 8) - 1))) ^^^ ((-1640531527))) ^^^ (nI i)) (nI 11)) (by omega) (by decide) dX0_spreadKey_67 (fun H locs hP hD hS => ?_)
          have hP : va_P D vwCl [(h0, .inr (0, [.ref kw, .int kb, .int kr, .ref sc, .ref so, .ref tp, .int tl, .ref ct, .ref sr])), (sc, .inl (cI, 140, .inl (upd (cSp F i) (i + 8) (rotL (((((((cSp F i) ((i + 8) - 8)) ^^^ ((cSp F i) ((i + 8) - 5))) ^^^ ((cSp F i) ((i + 8) - 3))) ^^^ ((cSp F i) ((i + 8) - 1))) ^^^ ((-1640531527))) ^^^ (nI i)) (nI 11)))))] H := hP
          have hD : va_D A [(h0, .inr (0, [.ref kw, .int kb, .int kr, .ref sc, .ref so, .ref tp, .int tl, .ref ct, .ref sr])), (sc, .inl (cI, 140, .inl (upd (cSp F i) (i + 8) (rotL (((((((cSp F i) ((i + 8) - 8)) ^^^ ((cSp F i) ((i + 8) - 5))) ^^^ ((cSp F i) ((i + 8) - 3))) ^^^ ((cSp F i) ((i + 8) - 1))) ^^^ ((-1640531527))) ^^^ (nI i)) (nI 11)))))] := hD
          refine lv_iinc (v := nI (i + 1)) (lv' := [(1, .int (nI (i + 1))), (3, .int (((((cSp F i) ((i + 8) - 8)) ^^^ ((cSp F i) ((i + 8) - 5))) ^^^ ((cSp F i) ((i + 8) - 3))) ^^^ ((cSp F i) ((i + 8) - 1)))), (2, .int (nI (i + 8))), (0, .ref h0)]) hx hb dX0_spreadKey_68 hl (k := 3) rfl (wk_inc i (by decide)) (by decide) rfl (fun ls hl => ?_)
          refine lv_goto (tgt := 2) hx hb dX0_spreadKey_71 (by decide) ?_
          exact ih (i + 1) (by omega) (by omega) _ _ hP hD hS ls (lv_sub hl [3, 0] rfl)
  refine lv_iconst (v := nI 0) hx hb dX0_spreadKey_0 (by decide) ?_
  refine lv_istore_n (lv' := [(1, .int (nI 0)), (0, .ref h0)]) hx hb dX0_spreadKey_1 rfl hl (by decide) rfl (fun ls hl => ?_)
  exact lp 133 0 (by omega) (by omega) _ _ hP hD hS ls (lv_sub hl [1, 0] rfl)
set_option maxRecDepth 100000 in
theorem in_X0_ready : ∀ w ∈ wsX00, w ∈ wsX0_ready := by decide +kernel
set_option maxHeartbeats 4000000 in
set_option maxRecDepth 100000 in
theorem c_X0_ready (l : Launch) (D : va_G) (cI : ClassId) (tb : Nat) (sz : Nat) (h0 kw sc so tp ct sr : Nat) (kr tl : Int32) (kb : Nat) (K F : Nat → Int32) (h2 : kb ≤ 32) : Met l yX0_ready wsX0_ready ({ frames := 3, cells := 0, slots := 0, locals := 77 }) (va_Pc [.ref h0] (fun U => PW D [(cI, .int)] [(h0, .inr (0, [.ref kw, .int (nI kb), .int kr, .ref sc, .ref so, .ref tp, .int tl, .ref ct, .ref sr])), (kw, .inl (cI, 8, .inl K)), (sc, .inl (cI, 140, .inl F))] sz U ∧ bxs tb (va_A [(h0, .inr (0, [.ref kw, .int (nI kb), .int kr, .ref sc, .ref so, .ref tp, .int tl, .ref ct, .ref sr])), (kw, .inl (cI, 8, .inl K)), (sc, .inl (cI, 140, .inl F))] sz) U U.heap)) (va_Qv (fun _ : Unit => True) (fun _ => BW D [(cI, .int)] (va_A [(h0, .inr (0, [.ref kw, .int (nI kb), .int kr, .ref sc, .ref so, .ref tp, .int tl, .ref ct, .ref sr])), (kw, .inl (cI, 8, .inl K)), (sc, .inl (cI, 140, .inl F))] sz) [(h0, .inr (0, [.ref kw, .int (nI kb), .int (nI 1), .ref sc, .ref so, .ref tp, .int tl, .ref ct, .ref sr])), (kw, .inl (cI, 8, .inl K)), (sc, .inl (cI, 140, .inl (cRk (cSp (cR1 F K kb 8) 132) 33)))]) (va_A [(h0, .inr (0, [.ref kw, .int (nI kb), .int kr, .ref sc, .ref so, .ref tp, .int tl, .ref ct, .ref sr])), (kw, .inl (cI, 8, .inl K)), (sc, .inl (cI, 140, .inl F))] sz)) 0 0 (va_A [(h0, .inr (0, [.ref kw, .int (nI kb), .int kr, .ref sc, .ref so, .ref tp, .int tl, .ref ct, .ref sr])), (kw, .inl (cI, 8, .inl K)), (sc, .inl (cI, 140, .inl F))] sz) := by
  refine Met.ofW (cc := cX0_ready) (maxL := 2) (ret := none) (by decide) rfl ?_
  intro p e s m args below meth c s₁ B hml hv
  obtain ⟨rfl, ⟨hsz, hP, hK, hD0⟩, hbx⟩ := hv
  have hx := B.exec
  have hb := B.bytes
  have hr := B.returns
  have hts := atoms_spec (ws := wsX0_ready) B.pre
  have hown : s.vm.findClass RX0 = some m.cls := findClass_of_methodNamed B.named
  have hlocks := B.notSynchronized
  subst hsz
  have hD := hD0.self (sz := s.heap.size)
  have hinX0 := in_X0_ready
  generalize hAe : va_A [(h0, .inr (0, [.ref kw, .int (nI kb), .int kr, .ref sc, .ref so, .ref tp, .int tl, .ref ct, .ref sr])), (kw, .inl (cI, 8, .inl K)), (sc, .inl (cI, 140, .inl F))] s.heap.size = A at hbx hD ⊢
  have hA : ∀ q : Nat, s.heap.size ≤ q → A q := fun q h => by rw [← hAe]; exact Or.inr h
  have hS : va_S A s.heap s.heap [] := va_S.rf
  have hl := lv_entry ([.ref h0]) (n := 2) (Nat.le_of_ble_eq_true rfl)
  rw [lg_entry_eq]
  generalize (lg_sl ([.ref h0]) ++ List.replicate (2 - (lg_sl ([.ref h0])).length) Slot.unset).toArray = ls at hl ⊢
  have hl : lv_has ls 2 [(0, .ref h0)] := hl
  have lp2 : ∀ (fu : Nat) (r : Nat), r ≤ 33 → 33 + 1 ≤ r + fu → ∀ (H : Heap) (locs : List Loc), va_P D vwCl [(h0, .inr (0, [.ref kw, .int (nI kb), .int kr, .ref sc, .ref so, .ref tp, .int tl, .ref ct, .ref sr])), (kw, .inl (cI, 8, .inl K)), (sc, .inl (cI, 140, .inl (cRk (cSp (cR1 F K kb 8) 132) r)))] H → va_D A [(h0, .inr (0, [.ref kw, .int (nI kb), .int kr, .ref sc, .ref so, .ref tp, .int tl, .ref ct, .ref sr])), (kw, .inl (cI, 8, .inl K)), (sc, .inl (cI, 140, .inl (cRk (cSp (cR1 F K kb 8) 132) r)))] → va_S A s.heap H locs → ∀ (ls : Array Slot), lv_has ls 2 [(0, .ref h0), (1, .int (nI r))] → W p l e ((headSpec wsX0_ready ({ frames := 3, cells := 0, slots := 0, locals := 77 })).room) s m ([.ref h0] : List Value).toArray below meth c H locs 0 0 (MQ below (va_Qv (fun _ : Unit => True) (fun _ => BW D [(cI, .int)] A [(h0, .inr (0, [.ref kw, .int (nI kb), .int (nI 1), .ref sc, .ref so, .ref tp, .int tl, .ref ct, .ref sr])), (kw, .inl (cI, 8, .inl K)), (sc, .inl (cI, 140, .inl (cRk (cSp (cR1 F K kb 8) 132) 33)))]) A) ([.ref h0] : List Value).toArray s 0 0 (A)) (F0 m 31 ls []) := by
    intro fu
    induction fu with
      | zero => intro r hi hfu; exact absurd hfu (by omega)
      | succ fu ih =>
        intro r hi hfu H locs hP hD hS ls hl
        refine lv_iload_n hx hb dX0_ready_31 rfl (lv_at hl 1 rfl) ?_
        refine lv_bipush (v := nI 32) hx hb dX0_ready_32 (by decide) ?_
        refine wk_gtN (tgt := 63) hx hb (a := r) (b := 32) (by omega) (by decide) dX0_ready_34 (by decide) (fun c34 => ?_) (fun c34 => ?_)
        · obtain rfl : r = 33 := by omega
          refine lv_aload_n hx hb dX0_ready_63 rfl (lv_at hl 0 rfl) ?_
          refine lv_iconst (v := nI 1) hx hb dX0_ready_64 (by decide) ?_
          refine va_put (D := D) (ci := 0) (v := .int (nI 1)) (ty := .boolean) (C := RX0) (T := TX0) (N := 9) hx hb hts hinX0 tyX0 tyX0_ok nmX0 hown hK hP hD hS 0 rfl rfl 2 (by decide) (hts (.fieldLink RX0 32 "SlicedCipher" "keyIsReady" "Z") (by decide +kernel)) (fun _ h9 => h9) rfl (by decide +kernel) rfl rfl (Nat.le_of_ble_eq_true rfl) dX0_ready_65 (fun H locs hP hD hS => ?_)
          have hP : va_P D vwCl [(h0, .inr (0, [.ref kw, .int (nI kb), .int (nI 1), .ref sc, .ref so, .ref tp, .int tl, .ref ct, .ref sr])), (kw, .inl (cI, 8, .inl K)), (sc, .inl (cI, 140, .inl (cRk (cSp (cR1 F K kb 8) 132) 33)))] H := hP
          have hD : va_D A [(h0, .inr (0, [.ref kw, .int (nI kb), .int (nI 1), .ref sc, .ref so, .ref tp, .int tl, .ref ct, .ref sr])), (kw, .inl (cI, 8, .inl K)), (sc, .inl (cI, 140, .inl (cRk (cSp (cR1 F K kb 8) 132) 33)))] := hD
          exact W.vret hx hb hr (fun t ht hW => ⟨⟨(), rfl, trivial, by rw [ht]; exact hP, va_K.moved hW.alike hK, hD⟩, hS.F ht⟩) hS.2.2 dX0_ready_68
        · refine lv_aload_n hx hb dX0_ready_37 rfl (lv_at hl 0 rfl) ?_
          refine va_get (D := D) (ci := 0) (v := .ref sc) (C := RX0) (T := TX0) (N := 9) hx hb hts hinX0 hown hK hP 0 rfl rfl 3 (by decide) (hts (.fieldLink RX0 13 "SlicedCipher" "schedule" "[I") (by decide +kernel)) (fun _ h9 => h9) rfl dX0_ready_38 ?_
          refine lv_iload_n hx hb dX0_ready_41 rfl (lv_at hl 1 rfl) ?_
          refine wk_Sp (v := nI (8 + 4 * r)) (As := [.int (nI r)]) (rest := [.ref sc]) ⟨hx, hb, hml, hown, hts⟩ (c_X0_roundKeyAt l r) (va_cwS 1 hts gX0_ready_X0_roundKeyAt rfl rfl rfl (by decide +kernel) ⟨Nat.le_of_ble_eq_true rfl, Nat.le_of_ble_eq_true rfl⟩) rfl hl.1 rfl (Nat.le_of_ble_eq_true rfl) dX0_ready_42 ⟨Nat.zero_le _, Nat.zero_le _⟩ ?_
          refine lv_iconst (v := nI 3) hx hb dX0_ready_45 (by decide) ?_
          refine lv_iload_n hx hb dX0_ready_46 rfl (lv_at hl 1 rfl) ?_
          refine lv_isub hx hb dX0_ready_47 ?_
          refine lv_bipush (v := nI 8) hx hb dX0_ready_48 (by decide) ?_
          refine wk_Sp (v := nI ((35 - r) % 8)) (As := [.int ((nI 3) - (nI r)), .int (nI 8)]) (rest := [.int (nI (8 + 4 * r)), .ref sc]) ⟨hx, hb, hml, hown, hts⟩ (c_J9_floorMod l r (by omega)) (va_cwS 2 hts gX0_ready_J9_floorMod_7cf53 rfl rfl rfl (by decide +kernel) ⟨Nat.le_of_ble_eq_true rfl, Nat.le_of_ble_eq_true rfl⟩) rfl hl.1 rfl (Nat.le_of_ble_eq_true rfl) dX0_ready_50 ⟨Nat.zero_le _, Nat.zero_le _⟩ ?_
          refine lv_iconst (v := nI 0) hx hb dX0_ready_53 (by decide) ?_
          refine wk_Sv (As := [.ref sc, .int (nI (8 + 4 * r)), .int (nI ((35 - r) % 8)), .int (nI 0)]) (rest := []) (wc := [(sc, .inl (cI, 140, .inl (cRk (cSp (cR1 F K kb 8) 132) r)))]) (wr := [(h0, .inr (0, [.ref kw, .int (nI kb), .int kr, .ref sc, .ref so, .ref tp, .int tl, .ref ct, .ref sr])), (kw, .inl (cI, 8, .inl K))]) (w1 := [(sc, .inl (cI, 140, .inl (st4 (cRk (cSp (cR1 F K kb 8) 132) r) (8 + 4 * r) (cBox 0 ((35 - r) % 8) (ld4 (cRk (cSp (cR1 F K kb 8) 132) r) (8 + 4 * r))))))]) (w2 := [(h0, .inr (0, [.ref kw, .int (nI kb), .int kr, .ref sc, .ref so, .ref tp, .int tl, .ref ct, .ref sr])), (kw, .inl (cI, 8, .inl K)), (sc, .inl (cI, 140, .inl (st4 (cRk (cSp (cR1 F K kb 8) 132) r) (8 + 4 * r) (cBox 0 ((35 - r) % 8) (ld4 (cRk (cSp (cR1 F K kb 8) 132) r) (8 + 4 * r))))))]) ⟨hx, hb, hml, hown, hts⟩ (c_X0_passBox0 l D cI tb _ sc (8 + 4 * r) ((35 - r) % 8) 140 (cRk (cSp (cR1 F K kb 8) 132) r) (by omega) (Nat.mod_lt _ (by decide)) (by decide)) (va_cwS 4 hts gX0_ready_X0_passBox rfl rfl rfl (by decide +kernel) ⟨Nat.le_of_ble_eq_true rfl, Nat.le_of_ble_eq_true rfl⟩) (fun U g mk a h => bxs.call g mk a h) (fun hF U hU hW => hbx.give hS hF hU hW) hK hP hD hS hA [2] [0, 1] rfl (by decide) rfl (by decide) (by decide) [0, 1, 2] rfl (by decide) rfl hl.1 rfl (Nat.le_of_ble_eq_true rfl) dX0_ready_54 ⟨Nat.zero_le _, Nat.zero_le _⟩ (fun H locs hP hD hS => ?_)
          refine lv_iinc (v := nI (r + 1)) (lv' := [(1, .int (nI (r + 1))), (0, .ref h0)]) hx hb dX0_ready_57 hl (k := 1) rfl (wk_inc r (by decide)) (by decide) rfl (fun ls hl => ?_)
          refine lv_goto (tgt := 31) hx hb dX0_ready_60 (by decide) ?_
          exact ih (r + 1) (by omega) (by omega) _ _ hP hD hS ls (lv_sub hl [1, 0] rfl)
  have lp1 : ∀ (fu : Nat) (i : Nat), i ≤ 8 → 8 + 1 ≤ i + fu → ∀ (H : Heap) (locs : List Loc), va_P D vwCl [(h0, .inr (0, [.ref kw, .int (nI kb), .int kr, .ref sc, .ref so, .ref tp, .int tl, .ref ct, .ref sr])), (kw, .inl (cI, 8, .inl K)), (sc, .inl (cI, 140, .inl (cR1 F K kb i)))] H → va_D A [(h0, .inr (0, [.ref kw, .int (nI kb), .int kr, .ref sc, .ref so, .ref tp, .int tl, .ref ct, .ref sr])), (kw, .inl (cI, 8, .inl K)), (sc, .inl (cI, 140, .inl (cR1 F K kb i)))] → va_S A s.heap H locs → ∀ (ls : Array Slot), lv_has ls 2 [(0, .ref h0), (1, .int (nI i))] → W p l e ((headSpec wsX0_ready ({ frames := 3, cells := 0, slots := 0, locals := 77 })).room) s m ([.ref h0] : List Value).toArray below meth c H locs 0 0 (MQ below (va_Qv (fun _ : Unit => True) (fun _ => BW D [(cI, .int)] A [(h0, .inr (0, [.ref kw, .int (nI kb), .int (nI 1), .ref sc, .ref so, .ref tp, .int tl, .ref ct, .ref sr])), (kw, .inl (cI, 8, .inl K)), (sc, .inl (cI, 140, .inl (cRk (cSp (cR1 F K kb 8) 132) 33)))]) A) ([.ref h0] : List Value).toArray s 0 0 (A)) (F0 m 2 ls []) := by
    intro fu
    induction fu with
      | zero => intro i hi hfu; exact absurd hfu (by omega)
      | succ fu ih =>
        intro i hi hfu H locs hP hD hS ls hl
        refine lv_iload_n hx hb dX0_ready_2 rfl (lv_at hl 1 rfl) ?_
        refine lv_bipush (v := nI 8) hx hb dX0_ready_3 (by decide) ?_
        refine wk_geN (tgt := 25) hx hb (a := i) (b := 8) (by omega) (by decide) dX0_ready_5 (by decide) (fun c5 => ?_) (fun c5 => ?_)
        · obtain rfl : i = 8 := by omega
          refine lv_aload_n hx hb dX0_ready_25 rfl (lv_at hl 0 rfl) ?_
          refine wk_Vv (b := h0) (As := []) (rest := []) (wc := [(h0, .inr (0, [.ref kw, .int (nI kb), .int kr, .ref sc, .ref so, .ref tp, .int tl, .ref ct, .ref sr])), (sc, .inl (cI, 140, .inl (cR1 F K kb 8)))]) (wr := [(kw, .inl (cI, 8, .inl K))]) (w1 := [(h0, .inr (0, [.ref kw, .int (nI kb), .int kr, .ref sc, .ref so, .ref tp, .int tl, .ref ct, .ref sr])), (sc, .inl (cI, 140, .inl (cSp (cR1 F K kb 8) 132)))]) (w2 := [(h0, .inr (0, [.ref kw, .int (nI kb), .int kr, .ref sc, .ref so, .ref tp, .int tl, .ref ct, .ref sr])), (kw, .inl (cI, 8, .inl K)), (sc, .inl (cI, 140, .inl (cSp (cR1 F K kb 8) 132)))]) (ci := 0) (q0 := 0) ⟨hx, hb, hml, hown, hts⟩ (c_X0_spreadKey l D cI _ h0 kw sc so tp ct sr (nI kb) kr tl (cR1 F K kb 8)) (cwV 0 hts gX0_ready_X0_spreadKey rfl rfl rfl (by decide +kernel) ⟨Nat.le_of_ble_eq_true rfl, Nat.le_of_ble_eq_true rfl⟩) (fun _ _ _ _ h => h) (fun _ _ _ _ => trivial) hK hP hD hS hA rfl rfl [0, 2] [1] rfl (by decide) rfl (by decide) (by decide) [1, 0, 2] rfl (by decide) rfl hl.1 rfl (Nat.le_of_ble_eq_true rfl) dX0_ready_26 ⟨Nat.zero_le _, Nat.zero_le _⟩ (fun H locs hP hD hS => ?_)
          refine lv_iconst (v := nI 0) hx hb dX0_ready_29 (by decide) ?_
          refine lv_istore_n (lv' := [(1, .int (nI 0)), (0, .ref h0)]) hx hb dX0_ready_30 rfl hl (by decide) rfl (fun ls hl => ?_)
          exact lp2 34 0 (by omega) (by omega) _ _ hP hD hS ls (lv_sub hl [1, 0] rfl)
        · refine lv_aload_n hx hb dX0_ready_8 rfl (lv_at hl 0 rfl) ?_
          refine va_get (D := D) (ci := 0) (v := .ref sc) (C := RX0) (T := TX0) (N := 9) hx hb hts hinX0 hown hK hP 0 rfl rfl 3 (by decide) (hts (.fieldLink RX0 13 "SlicedCipher" "schedule" "[I") (by decide +kernel)) (fun _ h9 => h9) rfl dX0_ready_9 ?_
          refine lv_iload_n hx hb dX0_ready_12 rfl (lv_at hl 1 rfl) ?_
          refine lv_aload_n hx hb dX0_ready_13 rfl (lv_at hl 0 rfl) ?_
          refine lv_iload_n hx hb dX0_ready_14 rfl (lv_at hl 1 rfl) ?_
          refine wk_Vi (b := h0) (As := [.int (nI i)]) (rest := [.int (nI i), .ref sc]) (wc := [(h0, .inr (0, [.ref kw, .int (nI kb), .int kr, .ref sc, .ref so, .ref tp, .int tl, .ref ct, .ref sr])), (kw, .inl (cI, 8, .inl K))]) (ci := 0) (q0 := 0) ⟨hx, hb, hml, hown, hts⟩ (c_X0_paddedKeyWord l D cI _ h0 kw sc so tp ct sr kr tl kb i K (by omega) h2) (cwV 1 hts gX0_ready_X0_paddedKeyWord rfl rfl rfl (by decide +kernel) ⟨Nat.le_of_ble_eq_true rfl, Nat.le_of_ble_eq_true rfl⟩) (fun _ _ _ _ h => h) (fun _ _ _ => trivial) hK hP hD rfl rfl [0, 1] rfl (by decide) rfl hl.1 rfl (Nat.le_of_ble_eq_true rfl) dX0_ready_15 ⟨Nat.zero_le _, Nat.zero_le _⟩ (fun z9 hz9 => ?_)
          refine wk_i (y := cKW K kb i 4) hz9 ?_
          refine wk_iast hx hb hK hP hD hS 2 0 rfl rfl (k := i) (x := cKW K kb i 4) (by omega) (by decide) dX0_ready_18 (fun H locs hP hD hS => ?_)
          have hP : va_P D vwCl [(h0, .inr (0, [.ref kw, .int (nI kb), .int kr, .ref sc, .ref so, .ref tp, .int tl, .ref ct, .ref sr])), (kw, .inl (cI, 8, .inl K)), (sc, .inl (cI, 140, .inl (upd (cR1 F K kb i) i (cKW K kb i 4))))] H := hP
          have hD : va_D A [(h0, .inr (0, [.ref kw, .int (nI kb), .int kr, .ref sc, .ref so, .ref tp, .int tl, .ref ct, .ref sr])), (kw, .inl (cI, 8, .inl K)), (sc, .inl (cI, 140, .inl (upd (cR1 F K kb i) i (cKW K kb i 4))))] := hD
          refine lv_iinc (v := nI (i + 1)) (lv' := [(1, .int (nI (i + 1))), (0, .ref h0)]) hx hb dX0_ready_19 hl (k := 1) rfl (wk_inc i (by decide)) (by decide) rfl (fun ls hl => ?_)
          refine lv_goto (tgt := 2) hx hb dX0_ready_22 (by decide) ?_
          exact ih (i + 1) (by omega) (by omega) _ _ hP hD hS ls (lv_sub hl [1, 0] rfl)
  refine lv_iconst (v := nI 0) hx hb dX0_ready_0 (by decide) ?_
  refine lv_istore_n (lv' := [(1, .int (nI 0)), (0, .ref h0)]) hx hb dX0_ready_1 rfl hl (by decide) rfl (fun ls hl => ?_)
  exact lp1 9 0 (by omega) (by omega) _ _ hP hD hS ls (lv_sub hl [1, 0] rfl)
set_option maxHeartbeats 4000000 in
set_option maxRecDepth 100000 in
theorem c_X0_sourceInBox (l : Launch) (D : va_G) (cI : ClassId) (tb : Nat) (sz : Nat) (wh : Nat) (v : Int32) (h1 : wh < 8) : Met l yX0_sourceInBox wsX0_sourceInBox ({ frames := 0, cells := 0, slots := 0, locals := 0 }) (va_Pc [.int (nI wh), .int v] (fun U => PW D [(cI, .int)] [] sz U ∧ bxs tb (va_A [] sz) U U.heap)) (vp_Si (fun r9 => r9 = nI (cSrc wh v 16))) 0 0 (fun _ => False) := by
  refine Met.ofW (cc := cX0_sourceInBox) (maxL := 4) (ret := (some .int)) (by decide) rfl ?_
  intro p e s m args below meth c s₁ B hml hv
  obtain ⟨rfl, ⟨hsz, hP, hK, hD0⟩, hbx⟩ := hv
  have hx := B.exec
  have hb := B.bytes
  have hr := B.returns
  have hts := atoms_spec (ws := wsX0_sourceInBox) B.pre
  have hown : s.vm.findClass RX0 = some m.cls := findClass_of_methodNamed B.named
  have hlocks := B.notSynchronized
  subst hsz
  have hD := hD0.self (sz := s.heap.size)
  generalize hAe : va_A [] s.heap.size = A at hbx hD
  have hA : ∀ q : Nat, s.heap.size ≤ q → A q := fun q h => by rw [← hAe]; exact Or.inr h
  have hS : va_S A s.heap s.heap [] := va_S.rf
  have hl := lv_entry ([.int (nI wh), .int v]) (n := 4) (Nat.le_of_ble_eq_true rfl)
  rw [lg_entry_eq]
  generalize (lg_sl ([.int (nI wh), .int v]) ++ List.replicate (4 - (lg_sl ([.int (nI wh), .int v])).length) Slot.unset).toArray = ls at hl ⊢
  have hl : lv_has ls 4 [(0, .int (nI wh)), (1, .int v)] := hl
  have lp : ∀ (fu : Nat) (i : Nat), i ≤ 16 → 16 + 1 ≤ i + fu → ∀ (ls : Array Slot), lv_has ls 4 [(0, .int (nI wh)), (1, .int v), (2, .int (nI (cSrc wh v i))), (3, .int (nI i))] → W p l e ((headSpec wsX0_sourceInBox ({ frames := 0, cells := 0, slots := 0, locals := 0 })).room) s m ([.int (nI wh), .int v] : List Value).toArray below meth c s.heap [] 0 0 (MQ below (vp_Si (fun r9 => r9 = nI (cSrc wh v 16))) ([.int (nI wh), .int v] : List Value).toArray s 0 0 (fun _ => False)) (F0 m 4 ls []) := by
    intro fu
    induction fu with
      | zero => intro i hi hfu; exact absurd hfu (by omega)
      | succ fu ih =>
        intro i hi hfu ls hl
        refine lv_iload_n hx hb dX0_sourceInBox_4 rfl (lv_at hl 3 rfl) ?_
        refine lv_bipush (v := nI 16) hx hb dX0_sourceInBox_5 (by decide) ?_
        refine wk_geN (tgt := 32) hx hb (a := i) (b := 16) (by omega) (by decide) dX0_sourceInBox_7 (by decide) (fun c7 => ?_) (fun c7 => ?_)
        · obtain rfl : i = 16 := by omega
          refine lv_iload_n hx hb dX0_sourceInBox_32 rfl (lv_at hl 2 rfl) ?_
          exact W.iret (v := nI (cSrc wh v 16)) hx hb hr (fun t ht hW => ⟨_, rfl, rfl, ht⟩) (fun q h => absurd h List.not_mem_nil) dX0_sourceInBox_33
        · refine va_gets (C := "SlicedCipher") (n := "BOXES") (d := "[I") (v := .ref tb) hx hb hbx.1 hS hown (hts (.fieldLink RX0 83 "SlicedCipher" "BOXES" "[I") (by decide +kernel)) (fun _ h9 => h9) dX0_sourceInBox_10 ?_
          refine lv_iload_n hx hb dX0_sourceInBox_13 rfl (lv_at hl 0 rfl) ?_
          refine lv_bipush (v := nI 16) hx hb dX0_sourceInBox_14 (by decide) ?_
          refine wk_imulN hx hb (a := wh) (b := 16) dX0_sourceInBox_16 ?_
          refine lv_iload_n hx hb dX0_sourceInBox_17 rfl (lv_at hl 3 rfl) ?_
          refine wk_iaddN hx hb (a := wh * 16) (b := i) dX0_sourceInBox_18 ?_
          refine wk_tbl hx hb hbx.2 hS (k := (wh * 16) + i) (by omega) dX0_sourceInBox_19 ?_
          refine lv_iload_n hx hb dX0_sourceInBox_20 rfl (lv_at hl 1 rfl) ?_
          refine lv_icmp_ne (tgt := 26) hx hb dX0_sourceInBox_21 (by decide) (fun c21 => ?_) (fun c21 => ?_)
          · refine lv_iinc (v := nI (i + 1)) (lv' := [(3, .int (nI (i + 1))), (0, .int (nI wh)), (1, .int v), (2, .int (nI (cSrc wh v i)))]) hx hb dX0_sourceInBox_26 hl (k := 3) rfl (wk_inc i (by decide)) (by decide) rfl (fun ls hl => ?_)
            refine lv_goto (tgt := 4) hx hb dX0_sourceInBox_29 (by decide) ?_
            exact ih (i + 1) (by omega) (by omega) ls (by rw [show cSrc wh v (i + 1) = cSrc wh v i from if_neg c21]; exact lv_sub hl [1, 2, 3, 0] rfl)
          · refine lv_iload_n hx hb dX0_sourceInBox_24 rfl (lv_at hl 3 rfl) ?_
            refine lv_istore_n (lv' := [(2, .int (nI i)), (0, .int (nI wh)), (1, .int v), (3, .int (nI i))]) hx hb dX0_sourceInBox_25 rfl hl (by decide) rfl (fun ls hl => ?_)
            refine lv_iinc (v := nI (i + 1)) (lv' := [(3, .int (nI (i + 1))), (2, .int (nI i)), (0, .int (nI wh)), (1, .int v)]) hx hb dX0_sourceInBox_26 hl (k := 3) rfl (wk_inc i (by decide)) (by decide) rfl (fun ls hl => ?_)
            refine lv_goto (tgt := 4) hx hb dX0_sourceInBox_29 (by decide) ?_
            exact ih (i + 1) (by omega) (by omega) ls (by rw [show cSrc wh v (i + 1) = i from if_pos c21]; exact lv_sub hl [2, 3, 1, 0] rfl)
  refine lv_iconst (v := nI 0) hx hb dX0_sourceInBox_0 (by decide) ?_
  refine lv_istore_n (lv' := [(2, .int (nI 0)), (0, .int (nI wh)), (1, .int v)]) hx hb dX0_sourceInBox_1 rfl hl (by decide) rfl (fun ls hl => ?_)
  refine lv_iconst (v := nI 0) hx hb dX0_sourceInBox_2 (by decide) ?_
  refine lv_istore_n (lv' := [(3, .int (nI 0)), (2, .int (nI 0)), (0, .int (nI wh)), (1, .int v)]) hx hb dX0_sourceInBox_3 rfl hl (by decide) rfl (fun ls hl => ?_)
  exact lp 17 0 (by omega) (by omega) ls (lv_sub hl [2, 3, 1, 0] rfl)
end
section
/-! the tape: each block alone, chained, counted, as the class does it -/
theorem xs_eq (f : Nat → Int32) {a b : Nat} (h : b + 4 ≤ a) : xbS f a b 4 = st4 f a (x4 (ld4 f a) (ld4 f b)) := by
  have e1 : ¬ b + 1 = a := by omega
  have e2 : ¬ b + 2 = a := by omega
  have e3 : ¬ b + 3 = a := by omega
  have e4 : ¬ b + 2 = a + 1 := by omega
  have e5 : ¬ b + 3 = a + 1 := by omega
  have e6 : ¬ b + 3 = a + 2 := by omega
  have e7 : ¬ b = a := by omega
  have e8 : ¬ b = a + 1 := by omega
  have e9 : ¬ b = a + 2 := by omega
  have e10 : ¬ b + 1 = a + 1 := by omega
  have e11 : ¬ b + 1 = a + 2 := by omega
  have e12 : ¬ b + 2 = a + 2 := by omega
  funext j
  simp [xbS, st4, upd, x4, ld4, *]
def cEach (bk : Nat) (F f : Nat → Int32) : Nat → Nat → Int32
  | 0 => f
  | k + 1 => st4 (cEach bk F f k) (4 * k) (if bk = 0 then cEnc F (ld4 (cEach bk F f k) (4 * k)) else cDec F (ld4 (cEach bk F f k) (4 * k)))
/-- the block k xored with the one before, the first one with the start -/
def cPrev (S f : Nat → Int32) : Nat → Nat → Int32
  | 0 => st4 f 0 (x4 (ld4 f 0) (ld4 S 0))
  | k + 1 => st4 f (4 * (k + 1)) (x4 (ld4 f (4 * (k + 1))) (ld4 f (4 * k)))
def cChain (F S f : Nat → Int32) : Nat → Nat → Int32
  | 0 => f
  | k + 1 => st4 (cPrev S (cChain F S f k) k) (4 * k) (cEnc F (ld4 (cPrev S (cChain F S f k) k) (4 * k)))
/-- back, i blocks from the end, of nb -/
def cUn (F S f : Nat → Int32) (nb : Nat) : Nat → Nat → Int32
  | 0 => f
  | i + 1 => cPrev S (st4 (cUn F S f nb i) (4 * (nb - (i + 1))) (cDec F (ld4 (cUn F S f nb i) (4 * (nb - (i + 1)))))) (nb - (i + 1))
theorem cUn_at (F S f : Nat → Int32) {nb j : Nat} (h : j < nb) : cUn F S f nb (nb - j) = cPrev S (st4 (cUn F S f nb (nb - (j + 1))) (4 * j) (cDec F (ld4 (cUn F S f nb (nb - (j + 1))) (4 * j)))) j := by
  obtain ⟨i, hi⟩ : ∃ i, nb - j = i + 1 := ⟨nb - j - 1, by omega⟩
  have e1 : nb - (j + 1) = i := by omega
  have e2 : nb - (i + 1) = j := by omega
  rw [hi, e1]
  show cPrev S (st4 (cUn F S f nb i) (4 * (nb - (i + 1))) (cDec F (ld4 (cUn F S f nb i) (4 * (nb - (i + 1)))))) (nb - (i + 1)) = _
  rw [e2]
theorem dec4 (x : Int32) : x + Int32.ofInt (-4) = x - nI 4 := by rw [Int32.sub_eq_add_neg]; rfl
theorem dec4n (j : Nat) : nI (4 * (j + 1)) - nI 4 = nI (4 * j) := by rw [pk_sub (by omega)]; congr 1
def cIncF : (Nat → Int32) → Nat → Nat → Nat → Int32
  | C, 0, _ => C
  | C, n + 1, j => if upd C j (C j + nI 1) j = 0 then cIncF (upd C j (C j + nI 1)) n (j + 1) else upd C j (C j + nI 1)
def cInc (C : Nat → Int32) : Nat → Int32 := cIncF C 4 0
theorem cIncF_z {C T : Nat → Int32} {j : Nat} (hj : j < 4) (h : cIncF C (4 - j) j = T) (c : upd C j (C j + nI 1) j = 0) : cIncF (upd C j (C j + nI 1)) (4 - (j + 1)) (j + 1) = T := by
  obtain ⟨q, hq⟩ : ∃ q, 4 - j = q + 1 := ⟨3 - j, by omega⟩
  have e1 : 4 - (j + 1) = q := by omega
  rw [hq] at h
  rw [e1, ← h]
  exact (if_pos c).symm
theorem cIncF_s {C T : Nat → Int32} {j : Nat} (hj : j < 4) (h : cIncF C (4 - j) j = T) (c : ¬ upd C j (C j + nI 1) j = 0) : upd C j (C j + nI 1) = T := by
  obtain ⟨q, hq⟩ : ∃ q, 4 - j = q + 1 := ⟨3 - j, by omega⟩
  rw [hq] at h
  rw [← h]
  exact (if_neg c).symm
def cCnt (C : Nat → Int32) : Nat → Nat → Int32
  | 0 => C
  | k + 1 => cInc (cCnt C k)
def cMR (F C R : Nat → Int32) : Nat → Nat → Int32
  | 0 => R
  | k + 1 => st4 (va_cpy (cCnt C k) (cMR F C R k) 0 0 4) 0 (cEnc F (ld4 (cCnt C k) 0))
def cMT (F C f : Nat → Int32) : Nat → Nat → Int32
  | 0 => f
  | k + 1 => st4 (cMT F C f k) (4 * k) (x4 (ld4 (cMT F C f k) (4 * k)) (cEnc F (ld4 (cCnt C k) 0)))
theorem ld4_cpy (f g : Nat → Int32) : ld4 (va_cpy f g 0 0 4) 0 = ld4 f 0 := by simp [ld4, va_cpy]
set_option maxRecDepth 100000 in
theorem in_X0_changeEachBlock : ∀ w ∈ wsX00, w ∈ wsX0_changeEachBlock := by decide +kernel
set_option maxHeartbeats 4000000 in
set_option maxRecDepth 100000 in
theorem c_X0_changeEachBlock0 (l : Launch) (D : va_G) (cI : ClassId) (tb : Nat) (sz : Nat) (h0 kw sc so tp ct sr : Nat) (kb kr : Int32) (nb : Nat) (F f : Nat → Int32) (hnb : nb ≤ 64) : Met l yX0_changeEachBlock wsX0_changeEachBlock ({ frames := 4, cells := 0, slots := 0, locals := 100 }) (va_Pc [.ref h0, .int (nI 0)] (fun U => PW D [(cI, .int)] [(h0, .inr (0, [.ref kw, .int kb, .int kr, .ref sc, .ref so, .ref tp, .int (nI (4 * nb)), .ref ct, .ref sr])), (sc, .inl (cI, 140, .inl F)), (tp, .inl (cI, 256, .inl f))] sz U ∧ bxs tb (va_A [(h0, .inr (0, [.ref kw, .int kb, .int kr, .ref sc, .ref so, .ref tp, .int (nI (4 * nb)), .ref ct, .ref sr])), (sc, .inl (cI, 140, .inl F)), (tp, .inl (cI, 256, .inl f))] sz) U U.heap)) (va_Qv (fun _ : Unit => True) (fun _ => BW D [(cI, .int)] (va_A [(h0, .inr (0, [.ref kw, .int kb, .int kr, .ref sc, .ref so, .ref tp, .int (nI (4 * nb)), .ref ct, .ref sr])), (sc, .inl (cI, 140, .inl F)), (tp, .inl (cI, 256, .inl f))] sz) [(h0, .inr (0, [.ref kw, .int kb, .int kr, .ref sc, .ref so, .ref tp, .int (nI (4 * nb)), .ref ct, .ref sr])), (sc, .inl (cI, 140, .inl F)), (tp, .inl (cI, 256, .inl (cEach 0 F f nb)))]) (va_A [(h0, .inr (0, [.ref kw, .int kb, .int kr, .ref sc, .ref so, .ref tp, .int (nI (4 * nb)), .ref ct, .ref sr])), (sc, .inl (cI, 140, .inl F)), (tp, .inl (cI, 256, .inl f))] sz)) 0 0 (va_A [(h0, .inr (0, [.ref kw, .int kb, .int kr, .ref sc, .ref so, .ref tp, .int (nI (4 * nb)), .ref ct, .ref sr])), (sc, .inl (cI, 140, .inl F)), (tp, .inl (cI, 256, .inl f))] sz) := by
  refine Met.ofW (cc := cX0_changeEachBlock) (maxL := 3) (ret := none) (by decide) rfl ?_
  intro p e s m args below meth c s₁ B hml hv
  obtain ⟨rfl, ⟨hsz, hP, hK, hD0⟩, hbx⟩ := hv
  have hx := B.exec
  have hb := B.bytes
  have hr := B.returns
  have hts := atoms_spec (ws := wsX0_changeEachBlock) B.pre
  have hown : s.vm.findClass RX0 = some m.cls := findClass_of_methodNamed B.named
  have hlocks := B.notSynchronized
  subst hsz
  have hD := hD0.self (sz := s.heap.size)
  have hinX0 := in_X0_changeEachBlock
  generalize hAe : va_A [(h0, .inr (0, [.ref kw, .int kb, .int kr, .ref sc, .ref so, .ref tp, .int (nI (4 * nb)), .ref ct, .ref sr])), (sc, .inl (cI, 140, .inl F)), (tp, .inl (cI, 256, .inl f))] s.heap.size = A at hbx hD ⊢
  have hA : ∀ q : Nat, s.heap.size ≤ q → A q := fun q h => by rw [← hAe]; exact Or.inr h
  have hS : va_S A s.heap s.heap [] := va_S.rf
  have hl := lv_entry ([.ref h0, .int (nI 0)]) (n := 3) (Nat.le_of_ble_eq_true rfl)
  rw [lg_entry_eq]
  generalize (lg_sl ([.ref h0, .int (nI 0)]) ++ List.replicate (3 - (lg_sl ([.ref h0, .int (nI 0)])).length) Slot.unset).toArray = ls at hl ⊢
  have hl : lv_has ls 3 [(0, .ref h0), (1, .int (nI 0))] := hl
  have lp : ∀ (fu : Nat) (k : Nat), k ≤ nb → nb + 1 ≤ k + fu → ∀ (H : Heap) (locs : List Loc), va_P D vwCl [(h0, .inr (0, [.ref kw, .int kb, .int kr, .ref sc, .ref so, .ref tp, .int (nI (4 * nb)), .ref ct, .ref sr])), (sc, .inl (cI, 140, .inl F)), (tp, .inl (cI, 256, .inl (cEach 0 F f k)))] H → va_D A [(h0, .inr (0, [.ref kw, .int kb, .int kr, .ref sc, .ref so, .ref tp, .int (nI (4 * nb)), .ref ct, .ref sr])), (sc, .inl (cI, 140, .inl F)), (tp, .inl (cI, 256, .inl (cEach 0 F f k)))] → va_S A s.heap H locs → ∀ (ls : Array Slot), lv_has ls 3 [(0, .ref h0), (1, .int (nI 0)), (2, .int (nI (4 * k)))] → W p l e ((headSpec wsX0_changeEachBlock ({ frames := 4, cells := 0, slots := 0, locals := 100 })).room) s m ([.ref h0, .int (nI 0)] : List Value).toArray below meth c H locs 0 0 (MQ below (va_Qv (fun _ : Unit => True) (fun _ => BW D [(cI, .int)] A [(h0, .inr (0, [.ref kw, .int kb, .int kr, .ref sc, .ref so, .ref tp, .int (nI (4 * nb)), .ref ct, .ref sr])), (sc, .inl (cI, 140, .inl F)), (tp, .inl (cI, 256, .inl (cEach 0 F f nb)))]) A) ([.ref h0, .int (nI 0)] : List Value).toArray s 0 0 (A)) (F0 m 2 ls []) := by
    intro fu
    induction fu with
      | zero => intro k hi hfu; exact absurd hfu (by omega)
      | succ fu ih =>
        intro k hi hfu H locs hP hD hS ls hl
        refine lv_iload_n hx hb dX0_changeEachBlock_2 rfl (lv_at hl 2 rfl) ?_
        refine lv_aload_n hx hb dX0_changeEachBlock_3 rfl (lv_at hl 0 rfl) ?_
        refine va_get (D := D) (ci := 0) (v := .int (nI (4 * nb))) (C := RX0) (T := TX0) (N := 9) hx hb hts hinX0 hown hK hP 0 rfl rfl 6 (by decide) (hts (.fieldLink RX0 36 "SlicedCipher" "tapeLength" "I") (by decide +kernel)) (fun _ h9 => h9) rfl dX0_changeEachBlock_4 ?_
        refine wk_geN (tgt := 41) hx hb (a := 4 * k) (b := 4 * nb) (by omega) (by omega) dX0_changeEachBlock_7 (by decide) (fun c7 => ?_) (fun c7 => ?_)
        · obtain rfl : k = nb := by omega
          exact W.vret hx hb hr (fun t ht hW => ⟨⟨(), rfl, trivial, by rw [ht]; exact hP, va_K.moved hW.alike hK, hD⟩, hS.F ht⟩) hS.2.2 dX0_changeEachBlock_41
        · refine lv_iload_n hx hb dX0_changeEachBlock_10 rfl (lv_at hl 1 rfl) ?_
          refine wk_eq0N (tgt := 26) hx hb (a := 0) (by decide) dX0_changeEachBlock_11 (by decide) (fun c11 => ?_) (fun c11 => absurd c11 (fun h => h rfl))
          refine lv_aload_n hx hb dX0_changeEachBlock_26 rfl (lv_at hl 0 rfl) ?_
          refine lv_aload_n hx hb dX0_changeEachBlock_27 rfl (lv_at hl 0 rfl) ?_
          refine va_get (D := D) (ci := 0) (v := .ref tp) (C := RX0) (T := TX0) (N := 9) hx hb hts hinX0 hown hK hP 0 rfl rfl 5 (by decide) (hts (.fieldLink RX0 19 "SlicedCipher" "tape" "[I") (by decide +kernel)) (fun _ h9 => h9) rfl dX0_changeEachBlock_28 ?_
          refine lv_iload_n hx hb dX0_changeEachBlock_31 rfl (lv_at hl 2 rfl) ?_
          refine wk_Vv (b := h0) (As := [.ref tp, .int (nI (4 * k))]) (rest := []) (wc := [(h0, .inr (0, [.ref kw, .int kb, .int kr, .ref sc, .ref so, .ref tp, .int (nI (4 * nb)), .ref ct, .ref sr])), (sc, .inl (cI, 140, .inl F)), (tp, .inl (cI, 256, .inl (cEach 0 F f k)))]) (wr := []) (w1 := [(h0, .inr (0, [.ref kw, .int kb, .int kr, .ref sc, .ref so, .ref tp, .int (nI (4 * nb)), .ref ct, .ref sr])), (sc, .inl (cI, 140, .inl F)), (tp, .inl (cI, 256, .inl (st4 (cEach 0 F f k) (4 * k) (cEnc F (ld4 (cEach 0 F f k) (4 * k))))))]) (w2 := [(h0, .inr (0, [.ref kw, .int kb, .int kr, .ref sc, .ref so, .ref tp, .int (nI (4 * nb)), .ref ct, .ref sr])), (sc, .inl (cI, 140, .inl F)), (tp, .inl (cI, 256, .inl (st4 (cEach 0 F f k) (4 * k) (cEnc F (ld4 (cEach 0 F f k) (4 * k))))))]) (ci := 0) (q0 := 0) ⟨hx, hb, hml, hown, hts⟩ (c_X0_encipher l D cI tb _ h0 kw sc so tp ct sr kb kr (nI (4 * nb)) tp (4 * k) 256 F (cEach 0 F f k) (by omega) (by decide)) (cwV 2 hts gX0_changeEachBlock_X0_encipher rfl rfl rfl (by decide +kernel) ⟨Nat.le_of_ble_eq_true rfl, Nat.le_of_ble_eq_true rfl⟩) (fun U g mk a h => bxs.call g mk a h) (fun hF U hU hW => hbx.give hS hF hU hW) hK hP hD hS hA rfl rfl [0, 1, 2] [] rfl (by decide) rfl (by decide) (by decide) [0, 1, 2] rfl (by decide) rfl hl.1 rfl (Nat.le_of_ble_eq_true rfl) dX0_changeEachBlock_32 ⟨Nat.zero_le _, Nat.zero_le _⟩ (fun H locs hP hD hS => ?_)
          refine lv_iinc (v := nI (4 * k + 4)) (lv' := [(2, .int (nI (4 * k + 4))), (0, .ref h0), (1, .int (nI 0))]) hx hb dX0_changeEachBlock_35 hl (k := 2) rfl (wk_inc (4 * k) (by decide)) (by decide) rfl (fun ls hl => ?_)
          refine lv_goto (tgt := 2) hx hb dX0_changeEachBlock_38 (by decide) ?_
          exact ih (k + 1) (by omega) (by omega) _ _ hP hD hS ls (lv_sub hl [1, 2, 0] rfl)
  refine lv_iconst (v := nI 0) hx hb dX0_changeEachBlock_0 (by decide) ?_
  refine lv_istore_n (lv' := [(2, .int (nI 0)), (0, .ref h0), (1, .int (nI 0))]) hx hb dX0_changeEachBlock_1 rfl hl (by decide) rfl (fun ls hl => ?_)
  exact lp (nb + 1) 0 (by omega) (by omega) _ _ hP hD hS ls (lv_sub hl [1, 2, 0] rfl)
set_option maxHeartbeats 4000000 in
set_option maxRecDepth 100000 in
theorem c_X0_changeEachBlock1 (l : Launch) (D : va_G) (cI : ClassId) (tb : Nat) (sz : Nat) (h0 kw sc so tp ct sr : Nat) (kb kr : Int32) (nb : Nat) (F f : Nat → Int32) (hnb : nb ≤ 64) : Met l yX0_changeEachBlock wsX0_changeEachBlock ({ frames := 4, cells := 0, slots := 0, locals := 100 }) (va_Pc [.ref h0, .int (nI 1)] (fun U => PW D [(cI, .int)] [(h0, .inr (0, [.ref kw, .int kb, .int kr, .ref sc, .ref so, .ref tp, .int (nI (4 * nb)), .ref ct, .ref sr])), (sc, .inl (cI, 140, .inl F)), (tp, .inl (cI, 256, .inl f))] sz U ∧ bxs tb (va_A [(h0, .inr (0, [.ref kw, .int kb, .int kr, .ref sc, .ref so, .ref tp, .int (nI (4 * nb)), .ref ct, .ref sr])), (sc, .inl (cI, 140, .inl F)), (tp, .inl (cI, 256, .inl f))] sz) U U.heap)) (va_Qv (fun _ : Unit => True) (fun _ => BW D [(cI, .int)] (va_A [(h0, .inr (0, [.ref kw, .int kb, .int kr, .ref sc, .ref so, .ref tp, .int (nI (4 * nb)), .ref ct, .ref sr])), (sc, .inl (cI, 140, .inl F)), (tp, .inl (cI, 256, .inl f))] sz) [(h0, .inr (0, [.ref kw, .int kb, .int kr, .ref sc, .ref so, .ref tp, .int (nI (4 * nb)), .ref ct, .ref sr])), (sc, .inl (cI, 140, .inl F)), (tp, .inl (cI, 256, .inl (cEach 1 F f nb)))]) (va_A [(h0, .inr (0, [.ref kw, .int kb, .int kr, .ref sc, .ref so, .ref tp, .int (nI (4 * nb)), .ref ct, .ref sr])), (sc, .inl (cI, 140, .inl F)), (tp, .inl (cI, 256, .inl f))] sz)) 0 0 (va_A [(h0, .inr (0, [.ref kw, .int kb, .int kr, .ref sc, .ref so, .ref tp, .int (nI (4 * nb)), .ref ct, .ref sr])), (sc, .inl (cI, 140, .inl F)), (tp, .inl (cI, 256, .inl f))] sz) := by
  refine Met.ofW (cc := cX0_changeEachBlock) (maxL := 3) (ret := none) (by decide) rfl ?_
  intro p e s m args below meth c s₁ B hml hv
  obtain ⟨rfl, ⟨hsz, hP, hK, hD0⟩, hbx⟩ := hv
  have hx := B.exec
  have hb := B.bytes
  have hr := B.returns
  have hts := atoms_spec (ws := wsX0_changeEachBlock) B.pre
  have hown : s.vm.findClass RX0 = some m.cls := findClass_of_methodNamed B.named
  have hlocks := B.notSynchronized
  subst hsz
  have hD := hD0.self (sz := s.heap.size)
  have hinX0 := in_X0_changeEachBlock
  generalize hAe : va_A [(h0, .inr (0, [.ref kw, .int kb, .int kr, .ref sc, .ref so, .ref tp, .int (nI (4 * nb)), .ref ct, .ref sr])), (sc, .inl (cI, 140, .inl F)), (tp, .inl (cI, 256, .inl f))] s.heap.size = A at hbx hD ⊢
  have hA : ∀ q : Nat, s.heap.size ≤ q → A q := fun q h => by rw [← hAe]; exact Or.inr h
  have hS : va_S A s.heap s.heap [] := va_S.rf
  have hl := lv_entry ([.ref h0, .int (nI 1)]) (n := 3) (Nat.le_of_ble_eq_true rfl)
  rw [lg_entry_eq]
  generalize (lg_sl ([.ref h0, .int (nI 1)]) ++ List.replicate (3 - (lg_sl ([.ref h0, .int (nI 1)])).length) Slot.unset).toArray = ls at hl ⊢
  have hl : lv_has ls 3 [(0, .ref h0), (1, .int (nI 1))] := hl
  have lp : ∀ (fu : Nat) (k : Nat), k ≤ nb → nb + 1 ≤ k + fu → ∀ (H : Heap) (locs : List Loc), va_P D vwCl [(h0, .inr (0, [.ref kw, .int kb, .int kr, .ref sc, .ref so, .ref tp, .int (nI (4 * nb)), .ref ct, .ref sr])), (sc, .inl (cI, 140, .inl F)), (tp, .inl (cI, 256, .inl (cEach 1 F f k)))] H → va_D A [(h0, .inr (0, [.ref kw, .int kb, .int kr, .ref sc, .ref so, .ref tp, .int (nI (4 * nb)), .ref ct, .ref sr])), (sc, .inl (cI, 140, .inl F)), (tp, .inl (cI, 256, .inl (cEach 1 F f k)))] → va_S A s.heap H locs → ∀ (ls : Array Slot), lv_has ls 3 [(0, .ref h0), (1, .int (nI 1)), (2, .int (nI (4 * k)))] → W p l e ((headSpec wsX0_changeEachBlock ({ frames := 4, cells := 0, slots := 0, locals := 100 })).room) s m ([.ref h0, .int (nI 1)] : List Value).toArray below meth c H locs 0 0 (MQ below (va_Qv (fun _ : Unit => True) (fun _ => BW D [(cI, .int)] A [(h0, .inr (0, [.ref kw, .int kb, .int kr, .ref sc, .ref so, .ref tp, .int (nI (4 * nb)), .ref ct, .ref sr])), (sc, .inl (cI, 140, .inl F)), (tp, .inl (cI, 256, .inl (cEach 1 F f nb)))]) A) ([.ref h0, .int (nI 1)] : List Value).toArray s 0 0 (A)) (F0 m 2 ls []) := by
    intro fu
    induction fu with
      | zero => intro k hi hfu; exact absurd hfu (by omega)
      | succ fu ih =>
        intro k hi hfu H locs hP hD hS ls hl
        refine lv_iload_n hx hb dX0_changeEachBlock_2 rfl (lv_at hl 2 rfl) ?_
        refine lv_aload_n hx hb dX0_changeEachBlock_3 rfl (lv_at hl 0 rfl) ?_
        refine va_get (D := D) (ci := 0) (v := .int (nI (4 * nb))) (C := RX0) (T := TX0) (N := 9) hx hb hts hinX0 hown hK hP 0 rfl rfl 6 (by decide) (hts (.fieldLink RX0 36 "SlicedCipher" "tapeLength" "I") (by decide +kernel)) (fun _ h9 => h9) rfl dX0_changeEachBlock_4 ?_
        refine wk_geN (tgt := 41) hx hb (a := 4 * k) (b := 4 * nb) (by omega) (by omega) dX0_changeEachBlock_7 (by decide) (fun c7 => ?_) (fun c7 => ?_)
        · obtain rfl : k = nb := by omega
          exact W.vret hx hb hr (fun t ht hW => ⟨⟨(), rfl, trivial, by rw [ht]; exact hP, va_K.moved hW.alike hK, hD⟩, hS.F ht⟩) hS.2.2 dX0_changeEachBlock_41
        · refine lv_iload_n hx hb dX0_changeEachBlock_10 rfl (lv_at hl 1 rfl) ?_
          refine wk_eq0N (tgt := 26) hx hb (a := 1) (by decide) dX0_changeEachBlock_11 (by decide) (fun c11 => absurd c11 (by decide)) (fun c11 => ?_)
          refine lv_aload_n hx hb dX0_changeEachBlock_14 rfl (lv_at hl 0 rfl) ?_
          refine lv_aload_n hx hb dX0_changeEachBlock_15 rfl (lv_at hl 0 rfl) ?_
          refine va_get (D := D) (ci := 0) (v := .ref tp) (C := RX0) (T := TX0) (N := 9) hx hb hts hinX0 hown hK hP 0 rfl rfl 5 (by decide) (hts (.fieldLink RX0 19 "SlicedCipher" "tape" "[I") (by decide +kernel)) (fun _ h9 => h9) rfl dX0_changeEachBlock_16 ?_
          refine lv_iload_n hx hb dX0_changeEachBlock_19 rfl (lv_at hl 2 rfl) ?_
          refine wk_Vv (b := h0) (As := [.ref tp, .int (nI (4 * k))]) (rest := []) (wc := [(h0, .inr (0, [.ref kw, .int kb, .int kr, .ref sc, .ref so, .ref tp, .int (nI (4 * nb)), .ref ct, .ref sr])), (sc, .inl (cI, 140, .inl F)), (tp, .inl (cI, 256, .inl (cEach 1 F f k)))]) (wr := []) (w1 := [(h0, .inr (0, [.ref kw, .int kb, .int kr, .ref sc, .ref so, .ref tp, .int (nI (4 * nb)), .ref ct, .ref sr])), (sc, .inl (cI, 140, .inl F)), (tp, .inl (cI, 256, .inl (st4 (cEach 1 F f k) (4 * k) (cDec F (ld4 (cEach 1 F f k) (4 * k))))))]) (w2 := [(h0, .inr (0, [.ref kw, .int kb, .int kr, .ref sc, .ref so, .ref tp, .int (nI (4 * nb)), .ref ct, .ref sr])), (sc, .inl (cI, 140, .inl F)), (tp, .inl (cI, 256, .inl (st4 (cEach 1 F f k) (4 * k) (cDec F (ld4 (cEach 1 F f k) (4 * k))))))]) (ci := 0) (q0 := 0) ⟨hx, hb, hml, hown, hts⟩ (c_X0_decipher l D cI tb _ h0 kw sc so tp ct sr kb kr (nI (4 * nb)) tp (4 * k) 256 F (cEach 1 F f k) (by omega) (by decide)) (cwV 2 hts gX0_changeEachBlock_X0_decipher rfl rfl rfl (by decide +kernel) ⟨Nat.le_of_ble_eq_true rfl, Nat.le_of_ble_eq_true rfl⟩) (fun U g mk a h => bxs.call g mk a h) (fun hF U hU hW => hbx.give hS hF hU hW) hK hP hD hS hA rfl rfl [0, 1, 2] [] rfl (by decide) rfl (by decide) (by decide) [0, 1, 2] rfl (by decide) rfl hl.1 rfl (Nat.le_of_ble_eq_true rfl) dX0_changeEachBlock_20 ⟨Nat.zero_le _, Nat.zero_le _⟩ (fun H locs hP hD hS => ?_)
          refine lv_goto (tgt := 35) hx hb dX0_changeEachBlock_23 (by decide) ?_
          refine lv_iinc (v := nI (4 * k + 4)) (lv' := [(2, .int (nI (4 * k + 4))), (0, .ref h0), (1, .int (nI 1))]) hx hb dX0_changeEachBlock_35 hl (k := 2) rfl (wk_inc (4 * k) (by decide)) (by decide) rfl (fun ls hl => ?_)
          refine lv_goto (tgt := 2) hx hb dX0_changeEachBlock_38 (by decide) ?_
          exact ih (k + 1) (by omega) (by omega) _ _ hP hD hS ls (lv_sub hl [1, 2, 0] rfl)
  refine lv_iconst (v := nI 0) hx hb dX0_changeEachBlock_0 (by decide) ?_
  refine lv_istore_n (lv' := [(2, .int (nI 0)), (0, .ref h0), (1, .int (nI 1))]) hx hb dX0_changeEachBlock_1 rfl hl (by decide) rfl (fun ls hl => ?_)
  exact lp (nb + 1) 0 (by omega) (by omega) _ _ hP hD hS ls (lv_sub hl [1, 2, 0] rfl)
set_option maxRecDepth 100000 in
theorem in_X0_xorWithOneBefore : ∀ w ∈ wsX00, w ∈ wsX0_xorWithOneBefore := by decide +kernel
set_option maxHeartbeats 4000000 in
set_option maxRecDepth 100000 in
theorem c_X0_xorWithOneBefore (l : Launch) (D : va_G) (cI : ClassId) (sz : Nat) (h0 kw sc so tp ct sr : Nat) (kb kr : Int32) (nb : Nat) (k : Nat) (S f : Nat → Int32) (hk : k < 64) : Met l yX0_xorWithOneBefore wsX0_xorWithOneBefore ({ frames := 1, cells := 0, slots := 0, locals := 24 }) (va_Pc [.ref h0, .int (nI (4 * k))] (fun U => PW D [(cI, .int)] [(h0, .inr (0, [.ref kw, .int kb, .int kr, .ref sc, .ref so, .ref tp, .int (nI (4 * nb)), .ref ct, .ref sr])), (so, .inl (cI, 4, .inl S)), (tp, .inl (cI, 256, .inl f))] sz U ∧ True)) (va_Qv (fun _ : Unit => True) (fun _ => BW D [(cI, .int)] (va_A [(h0, .inr (0, [.ref kw, .int kb, .int kr, .ref sc, .ref so, .ref tp, .int (nI (4 * nb)), .ref ct, .ref sr])), (so, .inl (cI, 4, .inl S)), (tp, .inl (cI, 256, .inl f))] sz) [(h0, .inr (0, [.ref kw, .int kb, .int kr, .ref sc, .ref so, .ref tp, .int (nI (4 * nb)), .ref ct, .ref sr])), (so, .inl (cI, 4, .inl S)), (tp, .inl (cI, 256, .inl (cPrev S f k)))]) (va_A [(h0, .inr (0, [.ref kw, .int kb, .int kr, .ref sc, .ref so, .ref tp, .int (nI (4 * nb)), .ref ct, .ref sr])), (so, .inl (cI, 4, .inl S)), (tp, .inl (cI, 256, .inl f))] sz)) 0 0 (va_A [(h0, .inr (0, [.ref kw, .int kb, .int kr, .ref sc, .ref so, .ref tp, .int (nI (4 * nb)), .ref ct, .ref sr])), (so, .inl (cI, 4, .inl S)), (tp, .inl (cI, 256, .inl f))] sz) := by
  refine Met.ofW (cc := cX0_xorWithOneBefore) (maxL := 2) (ret := none) (by decide) rfl ?_
  intro p e s m args below meth c s₁ B hml hv
  obtain ⟨rfl, ⟨hsz, hP, hK, hD0⟩, -⟩ := hv
  have hx := B.exec
  have hb := B.bytes
  have hr := B.returns
  have hts := atoms_spec (ws := wsX0_xorWithOneBefore) B.pre
  have hown : s.vm.findClass RX0 = some m.cls := findClass_of_methodNamed B.named
  have hlocks := B.notSynchronized
  subst hsz
  have hD := hD0.self (sz := s.heap.size)
  have hinX0 := in_X0_xorWithOneBefore
  generalize hAe : va_A [(h0, .inr (0, [.ref kw, .int kb, .int kr, .ref sc, .ref so, .ref tp, .int (nI (4 * nb)), .ref ct, .ref sr])), (so, .inl (cI, 4, .inl S)), (tp, .inl (cI, 256, .inl f))] s.heap.size = A at hD ⊢
  have hA : ∀ q : Nat, s.heap.size ≤ q → A q := fun q h => by rw [← hAe]; exact Or.inr h
  have hS : va_S A s.heap s.heap [] := va_S.rf
  have hl := lv_entry ([.ref h0, .int (nI (4 * k))]) (n := 2) (Nat.le_of_ble_eq_true rfl)
  rw [lg_entry_eq]
  generalize (lg_sl ([.ref h0, .int (nI (4 * k))]) ++ List.replicate (2 - (lg_sl ([.ref h0, .int (nI (4 * k))])).length) Slot.unset).toArray = ls at hl ⊢
  have hl : lv_has ls 2 [(0, .ref h0), (1, .int (nI (4 * k)))] := hl
  refine lv_iload_n hx hb dX0_xorWithOneBefore_0 rfl (lv_at hl 1 rfl) ?_
  refine wk_ne0N (tgt := 20) hx hb (a := 4 * k) (by omega) dX0_xorWithOneBefore_1 (by decide) (fun c1 => ?_) (fun c1 => ?_)
  · obtain ⟨j, rfl⟩ : ∃ j, k = j + 1 := ⟨k - 1, by omega⟩
    refine lv_aload_n hx hb dX0_xorWithOneBefore_20 rfl (lv_at hl 0 rfl) ?_
    refine va_get (D := D) (ci := 0) (v := .ref tp) (C := RX0) (T := TX0) (N := 9) hx hb hts hinX0 hown hK hP 0 rfl rfl 5 (by decide) (hts (.fieldLink RX0 19 "SlicedCipher" "tape" "[I") (by decide +kernel)) (fun _ h9 => h9) rfl dX0_xorWithOneBefore_21 ?_
    refine lv_iload_n hx hb dX0_xorWithOneBefore_24 rfl (lv_at hl 1 rfl) ?_
    refine lv_aload_n hx hb dX0_xorWithOneBefore_25 rfl (lv_at hl 0 rfl) ?_
    refine va_get (D := D) (ci := 0) (v := .ref tp) (C := RX0) (T := TX0) (N := 9) hx hb hts hinX0 hown hK hP 0 rfl rfl 5 (by decide) (hts (.fieldLink RX0 19 "SlicedCipher" "tape" "[I") (by decide +kernel)) (fun _ h9 => h9) rfl dX0_xorWithOneBefore_26 ?_
    refine lv_iload_n hx hb dX0_xorWithOneBefore_29 rfl (lv_at hl 1 rfl) ?_
    refine lv_iconst (v := nI 4) hx hb dX0_xorWithOneBefore_30 (by decide) ?_
    refine wk_isubN hx hb (a := 4 * (j + 1)) (b := 4) (by omega) dX0_xorWithOneBefore_31 ?_
    refine wk_Sv (As := [.ref tp, .int (nI (4 * (j + 1))), .ref tp, .int (nI ((4 * (j + 1)) - 4))]) (rest := []) (wc := [(tp, .inl (cI, 256, .inl f))]) (wr := [(h0, .inr (0, [.ref kw, .int kb, .int kr, .ref sc, .ref so, .ref tp, .int (nI (4 * nb)), .ref ct, .ref sr])), (so, .inl (cI, 4, .inl S))]) (w1 := [(tp, .inl (cI, 256, .inl (xbS f (4 * (j + 1)) (4 * (j + 1) - 4) 4)))]) (w2 := [(h0, .inr (0, [.ref kw, .int kb, .int kr, .ref sc, .ref so, .ref tp, .int (nI (4 * nb)), .ref ct, .ref sr])), (so, .inl (cI, 4, .inl S)), (tp, .inl (cI, 256, .inl (xbS f (4 * (j + 1)) (4 * (j + 1) - 4) 4)))]) ⟨hx, hb, hml, hown, hts⟩ (c_X0_xorBlockS l D cI _ tp (4 * (j + 1)) (4 * (j + 1) - 4) 256 f (by omega) (by omega) (by decide)) (va_cwS 4 hts gX0_xorWithOneBefore_X0_xorBlock rfl rfl rfl (by decide +kernel) ⟨Nat.le_of_ble_eq_true rfl, Nat.le_of_ble_eq_true rfl⟩) (fun _ _ _ _ h => h) (fun _ _ _ _ => trivial) hK hP hD hS hA [2] [0, 1] rfl (by decide) rfl (by decide) (by decide) [0, 1, 2] rfl (by decide) rfl hl.1 rfl (Nat.le_of_ble_eq_true rfl) dX0_xorWithOneBefore_32 ⟨Nat.zero_le _, Nat.zero_le _⟩ (fun H locs hP hD hS => ?_)
    rw [xs_eq f (by omega), show 4 * (j + 1) - 4 = 4 * j from by omega] at hP hD
    exact W.vret hx hb hr (fun t ht hW => ⟨⟨(), rfl, trivial, by rw [ht]; exact hP, va_K.moved hW.alike hK, hD⟩, hS.F ht⟩) hS.2.2 dX0_xorWithOneBefore_35
  · obtain rfl : k = 0 := by omega
    refine lv_aload_n hx hb dX0_xorWithOneBefore_4 rfl (lv_at hl 0 rfl) ?_
    refine va_get (D := D) (ci := 0) (v := .ref tp) (C := RX0) (T := TX0) (N := 9) hx hb hts hinX0 hown hK hP 0 rfl rfl 5 (by decide) (hts (.fieldLink RX0 19 "SlicedCipher" "tape" "[I") (by decide +kernel)) (fun _ h9 => h9) rfl dX0_xorWithOneBefore_5 ?_
    refine lv_iconst (v := nI 0) hx hb dX0_xorWithOneBefore_8 (by decide) ?_
    refine lv_aload_n hx hb dX0_xorWithOneBefore_9 rfl (lv_at hl 0 rfl) ?_
    refine va_get (D := D) (ci := 0) (v := .ref so) (C := RX0) (T := TX0) (N := 9) hx hb hts hinX0 hown hK hP 0 rfl rfl 4 (by decide) (hts (.fieldLink RX0 16 "SlicedCipher" "startWords" "[I") (by decide +kernel)) (fun _ h9 => h9) rfl dX0_xorWithOneBefore_10 ?_
    refine lv_iconst (v := nI 0) hx hb dX0_xorWithOneBefore_13 (by decide) ?_
    refine wk_Sv (As := [.ref tp, .int (nI 0), .ref so, .int (nI 0)]) (rest := []) (wc := [(tp, .inl (cI, 256, .inl f)), (so, .inl (cI, 4, .inl S))]) (wr := [(h0, .inr (0, [.ref kw, .int kb, .int kr, .ref sc, .ref so, .ref tp, .int (nI (4 * nb)), .ref ct, .ref sr]))]) (w1 := [(tp, .inl (cI, 256, .inl (xbF f 0 S 0 4))), (so, .inl (cI, 4, .inl S))]) (w2 := [(h0, .inr (0, [.ref kw, .int kb, .int kr, .ref sc, .ref so, .ref tp, .int (nI (4 * nb)), .ref ct, .ref sr])), (so, .inl (cI, 4, .inl S)), (tp, .inl (cI, 256, .inl (xbF f 0 S 0 4)))]) ⟨hx, hb, hml, hown, hts⟩ (c_X0_xorBlock l D cI _ tp 0 so 0 256 4 f S (by decide) (by decide) (by decide) (by decide)) (va_cwS 4 hts gX0_xorWithOneBefore_X0_xorBlock rfl rfl rfl (by decide +kernel) ⟨Nat.le_of_ble_eq_true rfl, Nat.le_of_ble_eq_true rfl⟩) (fun _ _ _ _ h => h) (fun _ _ _ _ => trivial) hK hP hD hS hA [2, 1] [0] rfl (by decide) rfl (by decide) (by decide) [0, 2, 1] rfl (by decide) rfl hl.1 rfl (Nat.le_of_ble_eq_true rfl) dX0_xorWithOneBefore_14 ⟨Nat.zero_le _, Nat.zero_le _⟩ (fun H locs hP hD hS => ?_)
    rw [xb_eq] at hP hD
    refine lv_goto (tgt := 35) hx hb dX0_xorWithOneBefore_17 (by decide) ?_
    exact W.vret hx hb hr (fun t ht hW => ⟨⟨(), rfl, trivial, by rw [ht]; exact hP, va_K.moved hW.alike hK, hD⟩, hS.F ht⟩) hS.2.2 dX0_xorWithOneBefore_35
set_option maxRecDepth 100000 in
theorem in_X0_chainTape : ∀ w ∈ wsX00, w ∈ wsX0_chainTape := by decide +kernel
set_option maxHeartbeats 4000000 in
set_option maxRecDepth 100000 in
theorem c_X0_chainTape (l : Launch) (D : va_G) (cI : ClassId) (tb : Nat) (sz : Nat) (h0 kw sc so tp ct sr : Nat) (kb kr : Int32) (nb : Nat) (F S f : Nat → Int32) (hnb : nb ≤ 64) : Met l yX0_chainTape wsX0_chainTape ({ frames := 4, cells := 0, slots := 0, locals := 100 }) (va_Pc [.ref h0] (fun U => PW D [(cI, .int)] [(h0, .inr (0, [.ref kw, .int kb, .int kr, .ref sc, .ref so, .ref tp, .int (nI (4 * nb)), .ref ct, .ref sr])), (sc, .inl (cI, 140, .inl F)), (so, .inl (cI, 4, .inl S)), (tp, .inl (cI, 256, .inl f))] sz U ∧ bxs tb (va_A [(h0, .inr (0, [.ref kw, .int kb, .int kr, .ref sc, .ref so, .ref tp, .int (nI (4 * nb)), .ref ct, .ref sr])), (sc, .inl (cI, 140, .inl F)), (so, .inl (cI, 4, .inl S)), (tp, .inl (cI, 256, .inl f))] sz) U U.heap)) (va_Qv (fun _ : Unit => True) (fun _ => BW D [(cI, .int)] (va_A [(h0, .inr (0, [.ref kw, .int kb, .int kr, .ref sc, .ref so, .ref tp, .int (nI (4 * nb)), .ref ct, .ref sr])), (sc, .inl (cI, 140, .inl F)), (so, .inl (cI, 4, .inl S)), (tp, .inl (cI, 256, .inl f))] sz) [(h0, .inr (0, [.ref kw, .int kb, .int kr, .ref sc, .ref so, .ref tp, .int (nI (4 * nb)), .ref ct, .ref sr])), (sc, .inl (cI, 140, .inl F)), (so, .inl (cI, 4, .inl S)), (tp, .inl (cI, 256, .inl (cChain F S f nb)))]) (va_A [(h0, .inr (0, [.ref kw, .int kb, .int kr, .ref sc, .ref so, .ref tp, .int (nI (4 * nb)), .ref ct, .ref sr])), (sc, .inl (cI, 140, .inl F)), (so, .inl (cI, 4, .inl S)), (tp, .inl (cI, 256, .inl f))] sz)) 0 0 (va_A [(h0, .inr (0, [.ref kw, .int kb, .int kr, .ref sc, .ref so, .ref tp, .int (nI (4 * nb)), .ref ct, .ref sr])), (sc, .inl (cI, 140, .inl F)), (so, .inl (cI, 4, .inl S)), (tp, .inl (cI, 256, .inl f))] sz) := by
  refine Met.ofW (cc := cX0_chainTape) (maxL := 2) (ret := none) (by decide) rfl ?_
  intro p e s m args below meth c s₁ B hml hv
  obtain ⟨rfl, ⟨hsz, hP, hK, hD0⟩, hbx⟩ := hv
  have hx := B.exec
  have hb := B.bytes
  have hr := B.returns
  have hts := atoms_spec (ws := wsX0_chainTape) B.pre
  have hown : s.vm.findClass RX0 = some m.cls := findClass_of_methodNamed B.named
  have hlocks := B.notSynchronized
  subst hsz
  have hD := hD0.self (sz := s.heap.size)
  have hinX0 := in_X0_chainTape
  generalize hAe : va_A [(h0, .inr (0, [.ref kw, .int kb, .int kr, .ref sc, .ref so, .ref tp, .int (nI (4 * nb)), .ref ct, .ref sr])), (sc, .inl (cI, 140, .inl F)), (so, .inl (cI, 4, .inl S)), (tp, .inl (cI, 256, .inl f))] s.heap.size = A at hbx hD ⊢
  have hA : ∀ q : Nat, s.heap.size ≤ q → A q := fun q h => by rw [← hAe]; exact Or.inr h
  have hS : va_S A s.heap s.heap [] := va_S.rf
  have hl := lv_entry ([.ref h0]) (n := 2) (Nat.le_of_ble_eq_true rfl)
  rw [lg_entry_eq]
  generalize (lg_sl ([.ref h0]) ++ List.replicate (2 - (lg_sl ([.ref h0])).length) Slot.unset).toArray = ls at hl ⊢
  have hl : lv_has ls 2 [(0, .ref h0)] := hl
  have lp : ∀ (fu : Nat) (k : Nat), k ≤ nb → nb + 1 ≤ k + fu → ∀ (H : Heap) (locs : List Loc), va_P D vwCl [(h0, .inr (0, [.ref kw, .int kb, .int kr, .ref sc, .ref so, .ref tp, .int (nI (4 * nb)), .ref ct, .ref sr])), (sc, .inl (cI, 140, .inl F)), (so, .inl (cI, 4, .inl S)), (tp, .inl (cI, 256, .inl (cChain F S f k)))] H → va_D A [(h0, .inr (0, [.ref kw, .int kb, .int kr, .ref sc, .ref so, .ref tp, .int (nI (4 * nb)), .ref ct, .ref sr])), (sc, .inl (cI, 140, .inl F)), (so, .inl (cI, 4, .inl S)), (tp, .inl (cI, 256, .inl (cChain F S f k)))] → va_S A s.heap H locs → ∀ (ls : Array Slot), lv_has ls 2 [(0, .ref h0), (1, .int (nI (4 * k)))] → W p l e ((headSpec wsX0_chainTape ({ frames := 4, cells := 0, slots := 0, locals := 100 })).room) s m ([.ref h0] : List Value).toArray below meth c H locs 0 0 (MQ below (va_Qv (fun _ : Unit => True) (fun _ => BW D [(cI, .int)] A [(h0, .inr (0, [.ref kw, .int kb, .int kr, .ref sc, .ref so, .ref tp, .int (nI (4 * nb)), .ref ct, .ref sr])), (sc, .inl (cI, 140, .inl F)), (so, .inl (cI, 4, .inl S)), (tp, .inl (cI, 256, .inl (cChain F S f nb)))]) A) ([.ref h0] : List Value).toArray s 0 0 (A)) (F0 m 2 ls []) := by
    intro fu
    induction fu with
      | zero => intro k hi hfu; exact absurd hfu (by omega)
      | succ fu ih =>
        intro k hi hfu H locs hP hD hS ls hl
        refine lv_iload_n hx hb dX0_chainTape_2 rfl (lv_at hl 1 rfl) ?_
        refine lv_aload_n hx hb dX0_chainTape_3 rfl (lv_at hl 0 rfl) ?_
        refine va_get (D := D) (ci := 0) (v := .int (nI (4 * nb))) (C := RX0) (T := TX0) (N := 9) hx hb hts hinX0 hown hK hP 0 rfl rfl 6 (by decide) (hts (.fieldLink RX0 36 "SlicedCipher" "tapeLength" "I") (by decide +kernel)) (fun _ h9 => h9) rfl dX0_chainTape_4 ?_
        refine wk_geN (tgt := 30) hx hb (a := 4 * k) (b := 4 * nb) (by omega) (by omega) dX0_chainTape_7 (by decide) (fun c7 => ?_) (fun c7 => ?_)
        · obtain rfl : k = nb := by omega
          exact W.vret hx hb hr (fun t ht hW => ⟨⟨(), rfl, trivial, by rw [ht]; exact hP, va_K.moved hW.alike hK, hD⟩, hS.F ht⟩) hS.2.2 dX0_chainTape_30
        · refine lv_aload_n hx hb dX0_chainTape_10 rfl (lv_at hl 0 rfl) ?_
          refine lv_iload_n hx hb dX0_chainTape_11 rfl (lv_at hl 1 rfl) ?_
          refine wk_Vv (b := h0) (As := [.int (nI (4 * k))]) (rest := []) (wc := [(h0, .inr (0, [.ref kw, .int kb, .int kr, .ref sc, .ref so, .ref tp, .int (nI (4 * nb)), .ref ct, .ref sr])), (so, .inl (cI, 4, .inl S)), (tp, .inl (cI, 256, .inl (cChain F S f k)))]) (wr := [(sc, .inl (cI, 140, .inl F))]) (w1 := [(h0, .inr (0, [.ref kw, .int kb, .int kr, .ref sc, .ref so, .ref tp, .int (nI (4 * nb)), .ref ct, .ref sr])), (so, .inl (cI, 4, .inl S)), (tp, .inl (cI, 256, .inl (cPrev S (cChain F S f k) k)))]) (w2 := [(h0, .inr (0, [.ref kw, .int kb, .int kr, .ref sc, .ref so, .ref tp, .int (nI (4 * nb)), .ref ct, .ref sr])), (sc, .inl (cI, 140, .inl F)), (so, .inl (cI, 4, .inl S)), (tp, .inl (cI, 256, .inl (cPrev S (cChain F S f k) k)))]) (ci := 0) (q0 := 0) ⟨hx, hb, hml, hown, hts⟩ (c_X0_xorWithOneBefore l D cI _ h0 kw sc so tp ct sr kb kr nb k S (cChain F S f k) (by omega)) (cwV 1 hts gX0_chainTape_X0_xorWithOneBefore rfl rfl rfl (by decide +kernel) ⟨Nat.le_of_ble_eq_true rfl, Nat.le_of_ble_eq_true rfl⟩) (fun _ _ _ _ h => h) (fun _ _ _ _ => trivial) hK hP hD hS hA rfl rfl [0, 2, 3] [1] rfl (by decide) rfl (by decide) (by decide) [1, 0, 2, 3] rfl (by decide) rfl hl.1 rfl (Nat.le_of_ble_eq_true rfl) dX0_chainTape_12 ⟨Nat.zero_le _, Nat.zero_le _⟩ (fun H locs hP hD hS => ?_)
          refine lv_aload_n hx hb dX0_chainTape_15 rfl (lv_at hl 0 rfl) ?_
          refine lv_aload_n hx hb dX0_chainTape_16 rfl (lv_at hl 0 rfl) ?_
          refine va_get (D := D) (ci := 0) (v := .ref tp) (C := RX0) (T := TX0) (N := 9) hx hb hts hinX0 hown hK hP 0 rfl rfl 5 (by decide) (hts (.fieldLink RX0 19 "SlicedCipher" "tape" "[I") (by decide +kernel)) (fun _ h9 => h9) rfl dX0_chainTape_17 ?_
          refine lv_iload_n hx hb dX0_chainTape_20 rfl (lv_at hl 1 rfl) ?_
          refine wk_Vv (b := h0) (As := [.ref tp, .int (nI (4 * k))]) (rest := []) (wc := [(h0, .inr (0, [.ref kw, .int kb, .int kr, .ref sc, .ref so, .ref tp, .int (nI (4 * nb)), .ref ct, .ref sr])), (sc, .inl (cI, 140, .inl F)), (tp, .inl (cI, 256, .inl (cPrev S (cChain F S f k) k)))]) (wr := [(so, .inl (cI, 4, .inl S))]) (w1 := [(h0, .inr (0, [.ref kw, .int kb, .int kr, .ref sc, .ref so, .ref tp, .int (nI (4 * nb)), .ref ct, .ref sr])), (sc, .inl (cI, 140, .inl F)), (tp, .inl (cI, 256, .inl (st4 (cPrev S (cChain F S f k) k) (4 * k) (cEnc F (ld4 (cPrev S (cChain F S f k) k) (4 * k))))))]) (w2 := [(h0, .inr (0, [.ref kw, .int kb, .int kr, .ref sc, .ref so, .ref tp, .int (nI (4 * nb)), .ref ct, .ref sr])), (sc, .inl (cI, 140, .inl F)), (so, .inl (cI, 4, .inl S)), (tp, .inl (cI, 256, .inl (st4 (cPrev S (cChain F S f k) k) (4 * k) (cEnc F (ld4 (cPrev S (cChain F S f k) k) (4 * k))))))]) (ci := 0) (q0 := 0) ⟨hx, hb, hml, hown, hts⟩ (c_X0_encipher l D cI tb _ h0 kw sc so tp ct sr kb kr (nI (4 * nb)) tp (4 * k) 256 F (cPrev S (cChain F S f k) k) (by omega) (by decide)) (cwV 2 hts gX0_chainTape_X0_encipher rfl rfl rfl (by decide +kernel) ⟨Nat.le_of_ble_eq_true rfl, Nat.le_of_ble_eq_true rfl⟩) (fun U g mk a h => bxs.call g mk a h) (fun hF U hU hW => hbx.give hS hF hU hW) hK hP hD hS hA rfl rfl [0, 1, 3] [2] rfl (by decide) rfl (by decide) (by decide) [1, 2, 0, 3] rfl (by decide) rfl hl.1 rfl (Nat.le_of_ble_eq_true rfl) dX0_chainTape_21 ⟨Nat.zero_le _, Nat.zero_le _⟩ (fun H locs hP hD hS => ?_)
          refine lv_iinc (v := nI (4 * k + 4)) (lv' := [(1, .int (nI (4 * k + 4))), (0, .ref h0)]) hx hb dX0_chainTape_24 hl (k := 1) rfl (wk_inc (4 * k) (by decide)) (by decide) rfl (fun ls hl => ?_)
          refine lv_goto (tgt := 2) hx hb dX0_chainTape_27 (by decide) ?_
          exact ih (k + 1) (by omega) (by omega) _ _ hP hD hS ls (lv_sub hl [1, 0] rfl)
  refine lv_iconst (v := nI 0) hx hb dX0_chainTape_0 (by decide) ?_
  refine lv_istore_n (lv' := [(1, .int (nI 0)), (0, .ref h0)]) hx hb dX0_chainTape_1 rfl hl (by decide) rfl (fun ls hl => ?_)
  exact lp (nb + 1) 0 (by omega) (by omega) _ _ hP hD hS ls (lv_sub hl [1, 0] rfl)
set_option maxRecDepth 100000 in
theorem in_X0_unchainTape : ∀ w ∈ wsX00, w ∈ wsX0_unchainTape := by decide +kernel
set_option maxHeartbeats 4000000 in
set_option maxRecDepth 100000 in
theorem c_X0_unchainTape (l : Launch) (D : va_G) (cI : ClassId) (tb : Nat) (sz : Nat) (h0 kw sc so tp ct sr : Nat) (kb kr : Int32) (nb : Nat) (F S f : Nat → Int32) (hnb : nb ≤ 64) : Met l yX0_unchainTape wsX0_unchainTape ({ frames := 4, cells := 0, slots := 0, locals := 100 }) (va_Pc [.ref h0] (fun U => PW D [(cI, .int)] [(h0, .inr (0, [.ref kw, .int kb, .int kr, .ref sc, .ref so, .ref tp, .int (nI (4 * nb)), .ref ct, .ref sr])), (sc, .inl (cI, 140, .inl F)), (so, .inl (cI, 4, .inl S)), (tp, .inl (cI, 256, .inl f))] sz U ∧ bxs tb (va_A [(h0, .inr (0, [.ref kw, .int kb, .int kr, .ref sc, .ref so, .ref tp, .int (nI (4 * nb)), .ref ct, .ref sr])), (sc, .inl (cI, 140, .inl F)), (so, .inl (cI, 4, .inl S)), (tp, .inl (cI, 256, .inl f))] sz) U U.heap)) (va_Qv (fun _ : Unit => True) (fun _ => BW D [(cI, .int)] (va_A [(h0, .inr (0, [.ref kw, .int kb, .int kr, .ref sc, .ref so, .ref tp, .int (nI (4 * nb)), .ref ct, .ref sr])), (sc, .inl (cI, 140, .inl F)), (so, .inl (cI, 4, .inl S)), (tp, .inl (cI, 256, .inl f))] sz) [(h0, .inr (0, [.ref kw, .int kb, .int kr, .ref sc, .ref so, .ref tp, .int (nI (4 * nb)), .ref ct, .ref sr])), (sc, .inl (cI, 140, .inl F)), (so, .inl (cI, 4, .inl S)), (tp, .inl (cI, 256, .inl (cUn F S f nb nb)))]) (va_A [(h0, .inr (0, [.ref kw, .int kb, .int kr, .ref sc, .ref so, .ref tp, .int (nI (4 * nb)), .ref ct, .ref sr])), (sc, .inl (cI, 140, .inl F)), (so, .inl (cI, 4, .inl S)), (tp, .inl (cI, 256, .inl f))] sz)) 0 0 (va_A [(h0, .inr (0, [.ref kw, .int kb, .int kr, .ref sc, .ref so, .ref tp, .int (nI (4 * nb)), .ref ct, .ref sr])), (sc, .inl (cI, 140, .inl F)), (so, .inl (cI, 4, .inl S)), (tp, .inl (cI, 256, .inl f))] sz) := by
  refine Met.ofW (cc := cX0_unchainTape) (maxL := 2) (ret := none) (by decide) rfl ?_
  intro p e s m args below meth c s₁ B hml hv
  obtain ⟨rfl, ⟨hsz, hP, hK, hD0⟩, hbx⟩ := hv
  have hx := B.exec
  have hb := B.bytes
  have hr := B.returns
  have hts := atoms_spec (ws := wsX0_unchainTape) B.pre
  have hown : s.vm.findClass RX0 = some m.cls := findClass_of_methodNamed B.named
  have hlocks := B.notSynchronized
  subst hsz
  have hD := hD0.self (sz := s.heap.size)
  have hinX0 := in_X0_unchainTape
  generalize hAe : va_A [(h0, .inr (0, [.ref kw, .int kb, .int kr, .ref sc, .ref so, .ref tp, .int (nI (4 * nb)), .ref ct, .ref sr])), (sc, .inl (cI, 140, .inl F)), (so, .inl (cI, 4, .inl S)), (tp, .inl (cI, 256, .inl f))] s.heap.size = A at hbx hD ⊢
  have hA : ∀ q : Nat, s.heap.size ≤ q → A q := fun q h => by rw [← hAe]; exact Or.inr h
  have hS : va_S A s.heap s.heap [] := va_S.rf
  have hl := lv_entry ([.ref h0]) (n := 2) (Nat.le_of_ble_eq_true rfl)
  rw [lg_entry_eq]
  generalize (lg_sl ([.ref h0]) ++ List.replicate (2 - (lg_sl ([.ref h0])).length) Slot.unset).toArray = ls at hl ⊢
  have hl : lv_has ls 2 [(0, .ref h0)] := hl
  have lp : ∀ (fu : Nat) (j : Nat), j ≤ nb → j + 1 ≤ fu → ∀ (H : Heap) (locs : List Loc), va_P D vwCl [(h0, .inr (0, [.ref kw, .int kb, .int kr, .ref sc, .ref so, .ref tp, .int (nI (4 * nb)), .ref ct, .ref sr])), (sc, .inl (cI, 140, .inl F)), (so, .inl (cI, 4, .inl S)), (tp, .inl (cI, 256, .inl (cUn F S f nb (nb - j))))] H → va_D A [(h0, .inr (0, [.ref kw, .int kb, .int kr, .ref sc, .ref so, .ref tp, .int (nI (4 * nb)), .ref ct, .ref sr])), (sc, .inl (cI, 140, .inl F)), (so, .inl (cI, 4, .inl S)), (tp, .inl (cI, 256, .inl (cUn F S f nb (nb - j))))] → va_S A s.heap H locs → ∀ (ls : Array Slot), lv_has ls 2 [(0, .ref h0), (1, .int (nI (4 * j) - nI 4))] → W p l e ((headSpec wsX0_unchainTape ({ frames := 4, cells := 0, slots := 0, locals := 100 })).room) s m ([.ref h0] : List Value).toArray below meth c H locs 0 0 (MQ below (va_Qv (fun _ : Unit => True) (fun _ => BW D [(cI, .int)] A [(h0, .inr (0, [.ref kw, .int kb, .int kr, .ref sc, .ref so, .ref tp, .int (nI (4 * nb)), .ref ct, .ref sr])), (sc, .inl (cI, 140, .inl F)), (so, .inl (cI, 4, .inl S)), (tp, .inl (cI, 256, .inl (cUn F S f nb nb)))]) A) ([.ref h0] : List Value).toArray s 0 0 (A)) (F0 m 7 ls []) := by
    intro fu
    induction fu with
      | zero => intro j hi hfu; exact absurd hfu (by omega)
      | succ fu ih =>
        intro j hi hfu H locs hP hD hS ls hl
        rcases j with _ | j
        · refine lv_iload_n hx hb dX0_unchainTape_7 rfl (lv_at hl 1 rfl) ?_
          refine lv_if_lt (tgt := 31) hx hb dX0_unchainTape_8 (by decide) (fun c8 => ?_) (fun c8 => absurd c8 (by decide))
          exact W.vret hx hb hr (fun t ht hW => ⟨⟨(), rfl, trivial, by rw [ht]; exact hP, va_K.moved hW.alike hK, hD⟩, hS.F ht⟩) hS.2.2 dX0_unchainTape_31
        · rw [dec4n j] at hl
          refine lv_iload_n hx hb dX0_unchainTape_7 rfl (lv_at hl 1 rfl) ?_
          refine lv_if_lt (tgt := 31) hx hb dX0_unchainTape_8 (by decide) (fun c8 => absurd c8 (nI_pos (by omega))) (fun c8 => ?_)
          refine lv_aload_n hx hb dX0_unchainTape_11 rfl (lv_at hl 0 rfl) ?_
          refine lv_aload_n hx hb dX0_unchainTape_12 rfl (lv_at hl 0 rfl) ?_
          refine va_get (D := D) (ci := 0) (v := .ref tp) (C := RX0) (T := TX0) (N := 9) hx hb hts hinX0 hown hK hP 0 rfl rfl 5 (by decide) (hts (.fieldLink RX0 19 "SlicedCipher" "tape" "[I") (by decide +kernel)) (fun _ h9 => h9) rfl dX0_unchainTape_13 ?_
          refine lv_iload_n hx hb dX0_unchainTape_16 rfl (lv_at hl 1 rfl) ?_
          refine wk_Vv (b := h0) (As := [.ref tp, .int (nI (4 * j))]) (rest := []) (wc := [(h0, .inr (0, [.ref kw, .int kb, .int kr, .ref sc, .ref so, .ref tp, .int (nI (4 * nb)), .ref ct, .ref sr])), (sc, .inl (cI, 140, .inl F)), (tp, .inl (cI, 256, .inl (cUn F S f nb (nb - (j + 1)))))]) (wr := [(so, .inl (cI, 4, .inl S))]) (w1 := [(h0, .inr (0, [.ref kw, .int kb, .int kr, .ref sc, .ref so, .ref tp, .int (nI (4 * nb)), .ref ct, .ref sr])), (sc, .inl (cI, 140, .inl F)), (tp, .inl (cI, 256, .inl (st4 (cUn F S f nb (nb - (j + 1))) (4 * j) (cDec F (ld4 (cUn F S f nb (nb - (j + 1))) (4 * j))))))]) (w2 := [(h0, .inr (0, [.ref kw, .int kb, .int kr, .ref sc, .ref so, .ref tp, .int (nI (4 * nb)), .ref ct, .ref sr])), (sc, .inl (cI, 140, .inl F)), (so, .inl (cI, 4, .inl S)), (tp, .inl (cI, 256, .inl (st4 (cUn F S f nb (nb - (j + 1))) (4 * j) (cDec F (ld4 (cUn F S f nb (nb - (j + 1))) (4 * j))))))]) (ci := 0) (q0 := 0) ⟨hx, hb, hml, hown, hts⟩ (c_X0_decipher l D cI tb _ h0 kw sc so tp ct sr kb kr (nI (4 * nb)) tp (4 * j) 256 F (cUn F S f nb (nb - (j + 1))) (by omega) (by decide)) (cwV 2 hts gX0_unchainTape_X0_decipher rfl rfl rfl (by decide +kernel) ⟨Nat.le_of_ble_eq_true rfl, Nat.le_of_ble_eq_true rfl⟩) (fun U g mk a h => bxs.call g mk a h) (fun hF U hU hW => hbx.give hS hF hU hW) hK hP hD hS hA rfl rfl [0, 1, 3] [2] rfl (by decide) rfl (by decide) (by decide) [1, 2, 0, 3] rfl (by decide) rfl hl.1 rfl (Nat.le_of_ble_eq_true rfl) dX0_unchainTape_17 ⟨Nat.zero_le _, Nat.zero_le _⟩ (fun H locs hP hD hS => ?_)
          refine lv_aload_n hx hb dX0_unchainTape_20 rfl (lv_at hl 0 rfl) ?_
          refine lv_iload_n hx hb dX0_unchainTape_21 rfl (lv_at hl 1 rfl) ?_
          refine wk_Vv (b := h0) (As := [.int (nI (4 * j))]) (rest := []) (wc := [(h0, .inr (0, [.ref kw, .int kb, .int kr, .ref sc, .ref so, .ref tp, .int (nI (4 * nb)), .ref ct, .ref sr])), (so, .inl (cI, 4, .inl S)), (tp, .inl (cI, 256, .inl (st4 (cUn F S f nb (nb - (j + 1))) (4 * j) (cDec F (ld4 (cUn F S f nb (nb - (j + 1))) (4 * j))))))]) (wr := [(sc, .inl (cI, 140, .inl F))]) (w1 := [(h0, .inr (0, [.ref kw, .int kb, .int kr, .ref sc, .ref so, .ref tp, .int (nI (4 * nb)), .ref ct, .ref sr])), (so, .inl (cI, 4, .inl S)), (tp, .inl (cI, 256, .inl (cPrev S (st4 (cUn F S f nb (nb - (j + 1))) (4 * j) (cDec F (ld4 (cUn F S f nb (nb - (j + 1))) (4 * j)))) j)))]) (w2 := [(h0, .inr (0, [.ref kw, .int kb, .int kr, .ref sc, .ref so, .ref tp, .int (nI (4 * nb)), .ref ct, .ref sr])), (sc, .inl (cI, 140, .inl F)), (so, .inl (cI, 4, .inl S)), (tp, .inl (cI, 256, .inl (cPrev S (st4 (cUn F S f nb (nb - (j + 1))) (4 * j) (cDec F (ld4 (cUn F S f nb (nb - (j + 1))) (4 * j)))) j)))]) (ci := 0) (q0 := 0) ⟨hx, hb, hml, hown, hts⟩ (c_X0_xorWithOneBefore l D cI _ h0 kw sc so tp ct sr kb kr nb j S (st4 (cUn F S f nb (nb - (j + 1))) (4 * j) (cDec F (ld4 (cUn F S f nb (nb - (j + 1))) (4 * j)))) (by omega)) (cwV 1 hts gX0_unchainTape_X0_xorWithOneBefore rfl rfl rfl (by decide +kernel) ⟨Nat.le_of_ble_eq_true rfl, Nat.le_of_ble_eq_true rfl⟩) (fun _ _ _ _ h => h) (fun _ _ _ _ => trivial) hK hP hD hS hA rfl rfl [0, 2, 3] [1] rfl (by decide) rfl (by decide) (by decide) [1, 0, 2, 3] rfl (by decide) rfl hl.1 rfl (Nat.le_of_ble_eq_true rfl) dX0_unchainTape_22 ⟨Nat.zero_le _, Nat.zero_le _⟩ (fun H locs hP hD hS => ?_)
          refine lv_iinc (v := nI (4 * j) - nI 4) (lv' := [(1, .int (nI (4 * j) - nI 4)), (0, .ref h0)]) hx hb dX0_unchainTape_25 hl (k := 1) rfl (dec4 _) (by decide) rfl (fun ls hl => ?_)
          refine lv_goto (tgt := 7) hx hb dX0_unchainTape_28 (by decide) ?_
          rw [← cUn_at F S f (by omega)] at hP hD
          exact ih j (by omega) (by omega) _ _ hP hD hS ls (lv_sub hl [1, 0] rfl)
  refine lv_aload_n hx hb dX0_unchainTape_0 rfl (lv_at hl 0 rfl) ?_
  refine va_get (D := D) (ci := 0) (v := .int (nI (4 * nb))) (C := RX0) (T := TX0) (N := 9) hx hb hts hinX0 hown hK hP 0 rfl rfl 6 (by decide) (hts (.fieldLink RX0 36 "SlicedCipher" "tapeLength" "I") (by decide +kernel)) (fun _ h9 => h9) rfl dX0_unchainTape_1 ?_
  refine lv_iconst (v := nI 4) hx hb dX0_unchainTape_4 (by decide) ?_
  refine lv_isub hx hb dX0_unchainTape_5 ?_
  refine lv_istore_n (lv' := [(1, .int ((nI (4 * nb)) - (nI 4))), (0, .ref h0)]) hx hb dX0_unchainTape_6 rfl hl (by decide) rfl (fun ls hl => ?_)
  exact lp (nb + 1) nb (by omega) (by omega) _ _ (by rw [Nat.sub_self]; exact hP) (by rw [Nat.sub_self]; exact hD) hS ls (lv_sub hl [1, 0] rfl)
end
section
set_option maxRecDepth 100000 in
theorem in_X0_countOneMore : ∀ w ∈ wsX00, w ∈ wsX0_countOneMore := by decide +kernel
set_option maxHeartbeats 4000000 in
set_option maxRecDepth 100000 in
theorem c_X0_countOneMore (l : Launch) (D : va_G) (cI : ClassId) (sz : Nat) (h0 kw sc so tp ct sr : Nat) (kb kr tl : Int32) (C0 : Nat → Int32) : Met l yX0_countOneMore wsX0_countOneMore ({ frames := 0, cells := 0, slots := 0, locals := 0 }) (va_Pc [.ref h0] (fun U => PW D [(cI, .int)] [(h0, .inr (0, [.ref kw, .int kb, .int kr, .ref sc, .ref so, .ref tp, .int tl, .ref ct, .ref sr])), (ct, .inl (cI, 4, .inl C0))] sz U ∧ True)) (va_Qv (fun _ : Unit => True) (fun _ => BW D [(cI, .int)] (va_A [(h0, .inr (0, [.ref kw, .int kb, .int kr, .ref sc, .ref so, .ref tp, .int tl, .ref ct, .ref sr])), (ct, .inl (cI, 4, .inl C0))] sz) [(h0, .inr (0, [.ref kw, .int kb, .int kr, .ref sc, .ref so, .ref tp, .int tl, .ref ct, .ref sr])), (ct, .inl (cI, 4, .inl (cInc C0)))]) (va_A [(h0, .inr (0, [.ref kw, .int kb, .int kr, .ref sc, .ref so, .ref tp, .int tl, .ref ct, .ref sr])), (ct, .inl (cI, 4, .inl C0))] sz)) 0 0 (va_A [(h0, .inr (0, [.ref kw, .int kb, .int kr, .ref sc, .ref so, .ref tp, .int tl, .ref ct, .ref sr])), (ct, .inl (cI, 4, .inl C0))] sz) := by
  refine Met.ofW (cc := cX0_countOneMore) (maxL := 2) (ret := none) (by decide) rfl ?_
  intro p e s m args below meth c s₁ B hml hv
  obtain ⟨rfl, ⟨hsz, hP, hK, hD0⟩, -⟩ := hv
  have hx := B.exec
  have hb := B.bytes
  have hr := B.returns
  have hts := atoms_spec (ws := wsX0_countOneMore) B.pre
  have hown : s.vm.findClass RX0 = some m.cls := findClass_of_methodNamed B.named
  have hlocks := B.notSynchronized
  subst hsz
  have hD := hD0.self (sz := s.heap.size)
  have hinX0 := in_X0_countOneMore
  generalize hAe : va_A [(h0, .inr (0, [.ref kw, .int kb, .int kr, .ref sc, .ref so, .ref tp, .int tl, .ref ct, .ref sr])), (ct, .inl (cI, 4, .inl C0))] s.heap.size = A at hD ⊢
  have hA : ∀ q : Nat, s.heap.size ≤ q → A q := fun q h => by rw [← hAe]; exact Or.inr h
  have hS : va_S A s.heap s.heap [] := va_S.rf
  have hl := lv_entry ([.ref h0]) (n := 2) (Nat.le_of_ble_eq_true rfl)
  rw [lg_entry_eq]
  generalize (lg_sl ([.ref h0]) ++ List.replicate (2 - (lg_sl ([.ref h0])).length) Slot.unset).toArray = ls at hl ⊢
  have hl : lv_has ls 2 [(0, .ref h0)] := hl
  have lp : ∀ (fu : Nat) (j : Nat) (C : Nat → Int32), j ≤ 4 → cIncF C (4 - j) j = cInc C0 → 4 + 1 ≤ j + fu → ∀ (H : Heap) (locs : List Loc), va_P D vwCl [(h0, .inr (0, [.ref kw, .int kb, .int kr, .ref sc, .ref so, .ref tp, .int tl, .ref ct, .ref sr])), (ct, .inl (cI, 4, .inl C))] H → va_D A [(h0, .inr (0, [.ref kw, .int kb, .int kr, .ref sc, .ref so, .ref tp, .int tl, .ref ct, .ref sr])), (ct, .inl (cI, 4, .inl C))] → va_S A s.heap H locs → ∀ (ls : Array Slot), lv_has ls 2 [(0, .ref h0), (1, .int (nI j))] → W p l e ((headSpec wsX0_countOneMore ({ frames := 0, cells := 0, slots := 0, locals := 0 })).room) s m ([.ref h0] : List Value).toArray below meth c H locs 0 0 (MQ below (va_Qv (fun _ : Unit => True) (fun _ => BW D [(cI, .int)] A [(h0, .inr (0, [.ref kw, .int kb, .int kr, .ref sc, .ref so, .ref tp, .int tl, .ref ct, .ref sr])), (ct, .inl (cI, 4, .inl (cInc C0)))]) A) ([.ref h0] : List Value).toArray s 0 0 (A)) (F0 m 2 ls []) := by
    intro fu
    induction fu with
      | zero => intro j C hi hT hfu; exact absurd hfu (by omega)
      | succ fu ih =>
        intro j C hi hT hfu H locs hP hD hS ls hl
        refine lv_iload_n hx hb dX0_countOneMore_2 rfl (lv_at hl 1 rfl) ?_
        refine lv_iconst (v := nI 4) hx hb dX0_countOneMore_3 (by decide) ?_
        refine wk_geN (tgt := 35) hx hb (a := j) (b := 4) (by omega) (by decide) dX0_countOneMore_4 (by decide) (fun c4 => ?_) (fun c4 => ?_)
        · obtain rfl : j = 4 := by omega
          have hT : C = cInc C0 := hT
          subst hT
          exact W.vret hx hb hr (fun t ht hW => ⟨⟨(), rfl, trivial, by rw [ht]; exact hP, va_K.moved hW.alike hK, hD⟩, hS.F ht⟩) hS.2.2 dX0_countOneMore_35
        · refine lv_aload_n hx hb dX0_countOneMore_7 rfl (lv_at hl 0 rfl) ?_
          refine va_get (D := D) (ci := 0) (v := .ref ct) (C := RX0) (T := TX0) (N := 9) hx hb hts hinX0 hown hK hP 0 rfl rfl 7 (by decide) (hts (.fieldLink RX0 22 "SlicedCipher" "counter" "[I") (by decide +kernel)) (fun _ h9 => h9) rfl dX0_countOneMore_8 ?_
          refine lv_iload_n hx hb dX0_countOneMore_11 rfl (lv_at hl 1 rfl) ?_
          refine lv_dup2_11 hx hb dX0_countOneMore_12 rfl rfl ?_
          refine wk_iald hx hb hK hP 1 0 rfl rfl (k := j) (by omega) (by decide) dX0_countOneMore_13 ?_
          refine lv_iconst (v := nI 1) hx hb dX0_countOneMore_14 (by decide) ?_
          refine lv_iadd hx hb dX0_countOneMore_15 ?_
          refine wk_iast hx hb hK hP hD hS 1 0 rfl rfl (k := j) (x := (C j) + (nI 1)) (by omega) (by decide) dX0_countOneMore_16 (fun H locs hP hD hS => ?_)
          have hP : va_P D vwCl [(h0, .inr (0, [.ref kw, .int kb, .int kr, .ref sc, .ref so, .ref tp, .int tl, .ref ct, .ref sr])), (ct, .inl (cI, 4, .inl (upd C j ((C j) + (nI 1)))))] H := hP
          have hD : va_D A [(h0, .inr (0, [.ref kw, .int kb, .int kr, .ref sc, .ref so, .ref tp, .int tl, .ref ct, .ref sr])), (ct, .inl (cI, 4, .inl (upd C j ((C j) + (nI 1)))))] := hD
          refine lv_aload_n hx hb dX0_countOneMore_17 rfl (lv_at hl 0 rfl) ?_
          refine va_get (D := D) (ci := 0) (v := .ref ct) (C := RX0) (T := TX0) (N := 9) hx hb hts hinX0 hown hK hP 0 rfl rfl 7 (by decide) (hts (.fieldLink RX0 22 "SlicedCipher" "counter" "[I") (by decide +kernel)) (fun _ h9 => h9) rfl dX0_countOneMore_18 ?_
          refine lv_iload_n hx hb dX0_countOneMore_21 rfl (lv_at hl 1 rfl) ?_
          refine wk_iald hx hb hK hP 1 0 rfl rfl (k := j) (by omega) (by decide) dX0_countOneMore_22 ?_
          refine lv_if_eq (tgt := 29) hx hb dX0_countOneMore_23 (by decide) (fun c23 => ?_) (fun c23 => ?_)
          · refine lv_iinc (v := nI (j + 1)) (lv' := [(1, .int (nI (j + 1))), (0, .ref h0)]) hx hb dX0_countOneMore_29 hl (k := 1) rfl (wk_inc j (by decide)) (by decide) rfl (fun ls hl => ?_)
            refine lv_goto (tgt := 2) hx hb dX0_countOneMore_32 (by decide) ?_
            exact ih (j + 1) _ (by omega) (cIncF_z (by omega) hT c23) (by omega) _ _ hP hD hS ls (lv_sub hl [1, 0] rfl)
          · rw [cIncF_s (by omega) hT c23] at hP hD
            refine lv_goto (tgt := 35) hx hb dX0_countOneMore_26 (by decide) ?_
            exact W.vret hx hb hr (fun t ht hW => ⟨⟨(), rfl, trivial, by rw [ht]; exact hP, va_K.moved hW.alike hK, hD⟩, hS.F ht⟩) hS.2.2 dX0_countOneMore_35
  refine lv_iconst (v := nI 0) hx hb dX0_countOneMore_0 (by decide) ?_
  refine lv_istore_n (lv' := [(1, .int (nI 0)), (0, .ref h0)]) hx hb dX0_countOneMore_1 rfl hl (by decide) rfl (fun ls hl => ?_)
  exact lp 5 0 C0 (by omega) rfl (by omega) _ _ hP hD hS ls (lv_sub hl [1, 0] rfl)
set_option maxRecDepth 100000 in
theorem in_X0_maskByCounter : ∀ w ∈ wsX00, w ∈ wsX0_maskByCounter := by decide +kernel
set_option maxHeartbeats 4000000 in
set_option maxRecDepth 100000 in
theorem c_X0_maskByCounter (l : Launch) (D : va_G) (cI : ClassId) (tb : Nat) (sz : Nat) (h0 kw sc so tp ct sr : Nat) (kb kr : Int32) (nb : Nat) (F S f C R : Nat → Int32) (hnb : nb ≤ 64) : Met l yX0_maskByCounter wsX0_maskByCounter ({ frames := 4, cells := 0, slots := 0, locals := 100 }) (va_Pc [.ref h0] (fun U => PW D [(cI, .int)] [(h0, .inr (0, [.ref kw, .int kb, .int kr, .ref sc, .ref so, .ref tp, .int (nI (4 * nb)), .ref ct, .ref sr])), (sc, .inl (cI, 140, .inl F)), (so, .inl (cI, 4, .inl S)), (tp, .inl (cI, 256, .inl f)), (ct, .inl (cI, 4, .inl C)), (sr, .inl (cI, 4, .inl R))] sz U ∧ bxs tb (va_A [(h0, .inr (0, [.ref kw, .int kb, .int kr, .ref sc, .ref so, .ref tp, .int (nI (4 * nb)), .ref ct, .ref sr])), (sc, .inl (cI, 140, .inl F)), (so, .inl (cI, 4, .inl S)), (tp, .inl (cI, 256, .inl f)), (ct, .inl (cI, 4, .inl C)), (sr, .inl (cI, 4, .inl R))] sz) U U.heap)) (va_Qv (fun _ : Unit => True) (fun _ => BW D [(cI, .int)] (va_A [(h0, .inr (0, [.ref kw, .int kb, .int kr, .ref sc, .ref so, .ref tp, .int (nI (4 * nb)), .ref ct, .ref sr])), (sc, .inl (cI, 140, .inl F)), (so, .inl (cI, 4, .inl S)), (tp, .inl (cI, 256, .inl f)), (ct, .inl (cI, 4, .inl C)), (sr, .inl (cI, 4, .inl R))] sz) [(h0, .inr (0, [.ref kw, .int kb, .int kr, .ref sc, .ref so, .ref tp, .int (nI (4 * nb)), .ref ct, .ref sr])), (sc, .inl (cI, 140, .inl F)), (so, .inl (cI, 4, .inl S)), (tp, .inl (cI, 256, .inl (cMT F (va_cpy S C 0 0 4) f nb))), (ct, .inl (cI, 4, .inl (cCnt (va_cpy S C 0 0 4) nb))), (sr, .inl (cI, 4, .inl (cMR F (va_cpy S C 0 0 4) R nb)))]) (va_A [(h0, .inr (0, [.ref kw, .int kb, .int kr, .ref sc, .ref so, .ref tp, .int (nI (4 * nb)), .ref ct, .ref sr])), (sc, .inl (cI, 140, .inl F)), (so, .inl (cI, 4, .inl S)), (tp, .inl (cI, 256, .inl f)), (ct, .inl (cI, 4, .inl C)), (sr, .inl (cI, 4, .inl R))] sz)) 0 0 (va_A [(h0, .inr (0, [.ref kw, .int kb, .int kr, .ref sc, .ref so, .ref tp, .int (nI (4 * nb)), .ref ct, .ref sr])), (sc, .inl (cI, 140, .inl F)), (so, .inl (cI, 4, .inl S)), (tp, .inl (cI, 256, .inl f)), (ct, .inl (cI, 4, .inl C)), (sr, .inl (cI, 4, .inl R))] sz) := by
  refine Met.ofW (cc := cX0_maskByCounter) (maxL := 2) (ret := none) (by decide) rfl ?_
  intro p e s m args below meth c s₁ B hml hv
  obtain ⟨rfl, ⟨hsz, hP, hK, hD0⟩, hbx⟩ := hv
  have hx := B.exec
  have hb := B.bytes
  have hr := B.returns
  have hts := atoms_spec (ws := wsX0_maskByCounter) B.pre
  have hown : s.vm.findClass RX0 = some m.cls := findClass_of_methodNamed B.named
  have hlocks := B.notSynchronized
  subst hsz
  have hD := hD0.self (sz := s.heap.size)
  have hinX0 := in_X0_maskByCounter
  generalize hAe : va_A [(h0, .inr (0, [.ref kw, .int kb, .int kr, .ref sc, .ref so, .ref tp, .int (nI (4 * nb)), .ref ct, .ref sr])), (sc, .inl (cI, 140, .inl F)), (so, .inl (cI, 4, .inl S)), (tp, .inl (cI, 256, .inl f)), (ct, .inl (cI, 4, .inl C)), (sr, .inl (cI, 4, .inl R))] s.heap.size = A at hbx hD ⊢
  have hA : ∀ q : Nat, s.heap.size ≤ q → A q := fun q h => by rw [← hAe]; exact Or.inr h
  have hS : va_S A s.heap s.heap [] := va_S.rf
  have hl := lv_entry ([.ref h0]) (n := 2) (Nat.le_of_ble_eq_true rfl)
  rw [lg_entry_eq]
  generalize (lg_sl ([.ref h0]) ++ List.replicate (2 - (lg_sl ([.ref h0])).length) Slot.unset).toArray = ls at hl ⊢
  have hl : lv_has ls 2 [(0, .ref h0)] := hl
  have lp : ∀ (fu : Nat) (k : Nat), k ≤ nb → nb + 1 ≤ k + fu → ∀ (H : Heap) (locs : List Loc), va_P D vwCl [(h0, .inr (0, [.ref kw, .int kb, .int kr, .ref sc, .ref so, .ref tp, .int (nI (4 * nb)), .ref ct, .ref sr])), (sc, .inl (cI, 140, .inl F)), (so, .inl (cI, 4, .inl S)), (tp, .inl (cI, 256, .inl (cMT F (va_cpy S C 0 0 4) f k))), (ct, .inl (cI, 4, .inl (cCnt (va_cpy S C 0 0 4) k))), (sr, .inl (cI, 4, .inl (cMR F (va_cpy S C 0 0 4) R k)))] H → va_D A [(h0, .inr (0, [.ref kw, .int kb, .int kr, .ref sc, .ref so, .ref tp, .int (nI (4 * nb)), .ref ct, .ref sr])), (sc, .inl (cI, 140, .inl F)), (so, .inl (cI, 4, .inl S)), (tp, .inl (cI, 256, .inl (cMT F (va_cpy S C 0 0 4) f k))), (ct, .inl (cI, 4, .inl (cCnt (va_cpy S C 0 0 4) k))), (sr, .inl (cI, 4, .inl (cMR F (va_cpy S C 0 0 4) R k)))] → va_S A s.heap H locs → ∀ (ls : Array Slot), lv_has ls 2 [(0, .ref h0), (1, .int (nI (4 * k)))] → W p l e ((headSpec wsX0_maskByCounter ({ frames := 4, cells := 0, slots := 0, locals := 100 })).room) s m ([.ref h0] : List Value).toArray below meth c H locs 0 0 (MQ below (va_Qv (fun _ : Unit => True) (fun _ => BW D [(cI, .int)] A [(h0, .inr (0, [.ref kw, .int kb, .int kr, .ref sc, .ref so, .ref tp, .int (nI (4 * nb)), .ref ct, .ref sr])), (sc, .inl (cI, 140, .inl F)), (so, .inl (cI, 4, .inl S)), (tp, .inl (cI, 256, .inl (cMT F (va_cpy S C 0 0 4) f nb))), (ct, .inl (cI, 4, .inl (cCnt (va_cpy S C 0 0 4) nb))), (sr, .inl (cI, 4, .inl (cMR F (va_cpy S C 0 0 4) R nb)))]) A) ([.ref h0] : List Value).toArray s 0 0 (A)) (F0 m 16 ls []) := by
    intro fu
    induction fu with
      | zero => intro k hi hfu; exact absurd hfu (by omega)
      | succ fu ih =>
        intro k hi hfu H locs hP hD hS ls hl
        refine lv_iload_n hx hb dX0_maskByCounter_16 rfl (lv_at hl 1 rfl) ?_
        refine lv_aload_n hx hb dX0_maskByCounter_17 rfl (lv_at hl 0 rfl) ?_
        refine va_get (D := D) (ci := 0) (v := .int (nI (4 * nb))) (C := RX0) (T := TX0) (N := 9) hx hb hts hinX0 hown hK hP 0 rfl rfl 6 (by decide) (hts (.fieldLink RX0 36 "SlicedCipher" "tapeLength" "I") (by decide +kernel)) (fun _ h9 => h9) rfl dX0_maskByCounter_18 ?_
        refine wk_geN (tgt := 70) hx hb (a := 4 * k) (b := 4 * nb) (by omega) (by omega) dX0_maskByCounter_21 (by decide) (fun c21 => ?_) (fun c21 => ?_)
        · obtain rfl : k = nb := by omega
          exact W.vret hx hb hr (fun t ht hW => ⟨⟨(), rfl, trivial, by rw [ht]; exact hP, va_K.moved hW.alike hK, hD⟩, hS.F ht⟩) hS.2.2 dX0_maskByCounter_70
        · refine lv_aload_n hx hb dX0_maskByCounter_24 rfl (lv_at hl 0 rfl) ?_
          refine va_get (D := D) (ci := 0) (v := .ref ct) (C := RX0) (T := TX0) (N := 9) hx hb hts hinX0 hown hK hP 0 rfl rfl 7 (by decide) (hts (.fieldLink RX0 22 "SlicedCipher" "counter" "[I") (by decide +kernel)) (fun _ h9 => h9) rfl dX0_maskByCounter_25 ?_
          refine lv_iconst (v := nI 0) hx hb dX0_maskByCounter_28 (by decide) ?_
          refine lv_aload_n hx hb dX0_maskByCounter_29 rfl (lv_at hl 0 rfl) ?_
          refine va_get (D := D) (ci := 0) (v := .ref sr) (C := RX0) (T := TX0) (N := 9) hx hb hts hinX0 hown hK hP 0 rfl rfl 8 (by decide) (hts (.fieldLink RX0 25 "SlicedCipher" "scratch" "[I") (by decide +kernel)) (fun _ h9 => h9) rfl dX0_maskByCounter_30 ?_
          refine lv_iconst (v := nI 0) hx hb dX0_maskByCounter_33 (by decide) ?_
          refine lv_iconst (v := nI 4) hx hb dX0_maskByCounter_34 (by decide) ?_
          refine va_copyi (ty := .int) (sp := nI 0) (dp := nI 0) (n := nI 4) hx hb (by rw [hml]; exact hl.1.symm) hown (hts (.methodLink RX0 145 arraycopyName) (by decide +kernel)) (hts (.native arraycopyName) (by decide +kernel)) (hts (.static arraycopyName) (by decide +kernel)) (hts (.initialized "java/lang/System") (by decide +kernel)) hK hP hD hS 4 5 0 0 rfl rfl rfl rfl rfl (by decide) (by decide) (by decide) (by decide) (by decide) (fun _ _ => rfl) (by decide) (Nat.le_of_ble_eq_true rfl) dX0_maskByCounter_35 (fun H locs hP hD hS => ?_)
          have hP : va_P D vwCl [(h0, .inr (0, [.ref kw, .int kb, .int kr, .ref sc, .ref so, .ref tp, .int (nI (4 * nb)), .ref ct, .ref sr])), (sc, .inl (cI, 140, .inl F)), (so, .inl (cI, 4, .inl S)), (tp, .inl (cI, 256, .inl (cMT F (va_cpy S C 0 0 4) f k))), (ct, .inl (cI, 4, .inl (cCnt (va_cpy S C 0 0 4) k))), (sr, .inl (cI, 4, .inl (va_cpy (cCnt (va_cpy S C 0 0 4) k) (cMR F (va_cpy S C 0 0 4) R k) 0 0 4)))] H := hP
          have hD : va_D A [(h0, .inr (0, [.ref kw, .int kb, .int kr, .ref sc, .ref so, .ref tp, .int (nI (4 * nb)), .ref ct, .ref sr])), (sc, .inl (cI, 140, .inl F)), (so, .inl (cI, 4, .inl S)), (tp, .inl (cI, 256, .inl (cMT F (va_cpy S C 0 0 4) f k))), (ct, .inl (cI, 4, .inl (cCnt (va_cpy S C 0 0 4) k))), (sr, .inl (cI, 4, .inl (va_cpy (cCnt (va_cpy S C 0 0 4) k) (cMR F (va_cpy S C 0 0 4) R k) 0 0 4)))] := hD
          refine lv_aload_n hx hb dX0_maskByCounter_38 rfl (lv_at hl 0 rfl) ?_
          refine lv_aload_n hx hb dX0_maskByCounter_39 rfl (lv_at hl 0 rfl) ?_
          refine va_get (D := D) (ci := 0) (v := .ref sr) (C := RX0) (T := TX0) (N := 9) hx hb hts hinX0 hown hK hP 0 rfl rfl 8 (by decide) (hts (.fieldLink RX0 25 "SlicedCipher" "scratch" "[I") (by decide +kernel)) (fun _ h9 => h9) rfl dX0_maskByCounter_40 ?_
          refine lv_iconst (v := nI 0) hx hb dX0_maskByCounter_43 (by decide) ?_
          refine wk_Vv (b := h0) (As := [.ref sr, .int (nI 0)]) (rest := []) (wc := [(h0, .inr (0, [.ref kw, .int kb, .int kr, .ref sc, .ref so, .ref tp, .int (nI (4 * nb)), .ref ct, .ref sr])), (sc, .inl (cI, 140, .inl F)), (sr, .inl (cI, 4, .inl (va_cpy (cCnt (va_cpy S C 0 0 4) k) (cMR F (va_cpy S C 0 0 4) R k) 0 0 4)))]) (wr := [(so, .inl (cI, 4, .inl S)), (tp, .inl (cI, 256, .inl (cMT F (va_cpy S C 0 0 4) f k))), (ct, .inl (cI, 4, .inl (cCnt (va_cpy S C 0 0 4) k)))]) (w1 := [(h0, .inr (0, [.ref kw, .int kb, .int kr, .ref sc, .ref so, .ref tp, .int (nI (4 * nb)), .ref ct, .ref sr])), (sc, .inl (cI, 140, .inl F)), (sr, .inl (cI, 4, .inl (st4 (va_cpy (cCnt (va_cpy S C 0 0 4) k) (cMR F (va_cpy S C 0 0 4) R k) 0 0 4) 0 (cEnc F (ld4 (va_cpy (cCnt (va_cpy S C 0 0 4) k) (cMR F (va_cpy S C 0 0 4) R k) 0 0 4) 0)))))]) (w2 := [(h0, .inr (0, [.ref kw, .int kb, .int kr, .ref sc, .ref so, .ref tp, .int (nI (4 * nb)), .ref ct, .ref sr])), (sc, .inl (cI, 140, .inl F)), (so, .inl (cI, 4, .inl S)), (tp, .inl (cI, 256, .inl (cMT F (va_cpy S C 0 0 4) f k))), (ct, .inl (cI, 4, .inl (cCnt (va_cpy S C 0 0 4) k))), (sr, .inl (cI, 4, .inl (st4 (va_cpy (cCnt (va_cpy S C 0 0 4) k) (cMR F (va_cpy S C 0 0 4) R k) 0 0 4) 0 (cEnc F (ld4 (va_cpy (cCnt (va_cpy S C 0 0 4) k) (cMR F (va_cpy S C 0 0 4) R k) 0 0 4) 0)))))]) (ci := 0) (q0 := 0) ⟨hx, hb, hml, hown, hts⟩ (c_X0_encipher l D cI tb _ h0 kw sc so tp ct sr kb kr (nI (4 * nb)) sr 0 4 F (va_cpy (cCnt (va_cpy S C 0 0 4) k) (cMR F (va_cpy S C 0 0 4) R k) 0 0 4) (by omega) (by decide)) (cwV 2 hts gX0_maskByCounter_X0_encipher rfl rfl rfl (by decide +kernel) ⟨Nat.le_of_ble_eq_true rfl, Nat.le_of_ble_eq_true rfl⟩) (fun U g mk a h => bxs.call g mk a h) (fun hF U hU hW => hbx.give hS hF hU hW) hK hP hD hS hA rfl rfl [0, 1, 5] [2, 3, 4] rfl (by decide) rfl (by decide) (by decide) [3, 4, 0, 1, 2, 5] rfl (by decide) rfl hl.1 rfl (Nat.le_of_ble_eq_true rfl) dX0_maskByCounter_44 ⟨Nat.zero_le _, Nat.zero_le _⟩ (fun H locs hP hD hS => ?_)
          rw [ld4_cpy] at hP hD
          have hP : va_P D vwCl [(h0, .inr (0, [.ref kw, .int kb, .int kr, .ref sc, .ref so, .ref tp, .int (nI (4 * nb)), .ref ct, .ref sr])), (sc, .inl (cI, 140, .inl F)), (so, .inl (cI, 4, .inl S)), (tp, .inl (cI, 256, .inl (cMT F (va_cpy S C 0 0 4) f k))), (ct, .inl (cI, 4, .inl (cCnt (va_cpy S C 0 0 4) k))), (sr, .inl (cI, 4, .inl (cMR F (va_cpy S C 0 0 4) R (k + 1))))] H := hP
          have hD : va_D A [(h0, .inr (0, [.ref kw, .int kb, .int kr, .ref sc, .ref so, .ref tp, .int (nI (4 * nb)), .ref ct, .ref sr])), (sc, .inl (cI, 140, .inl F)), (so, .inl (cI, 4, .inl S)), (tp, .inl (cI, 256, .inl (cMT F (va_cpy S C 0 0 4) f k))), (ct, .inl (cI, 4, .inl (cCnt (va_cpy S C 0 0 4) k))), (sr, .inl (cI, 4, .inl (cMR F (va_cpy S C 0 0 4) R (k + 1))))] := hD
          refine lv_aload_n hx hb dX0_maskByCounter_47 rfl (lv_at hl 0 rfl) ?_
          refine va_get (D := D) (ci := 0) (v := .ref tp) (C := RX0) (T := TX0) (N := 9) hx hb hts hinX0 hown hK hP 0 rfl rfl 5 (by decide) (hts (.fieldLink RX0 19 "SlicedCipher" "tape" "[I") (by decide +kernel)) (fun _ h9 => h9) rfl dX0_maskByCounter_48 ?_
          refine lv_iload_n hx hb dX0_maskByCounter_51 rfl (lv_at hl 1 rfl) ?_
          refine lv_aload_n hx hb dX0_maskByCounter_52 rfl (lv_at hl 0 rfl) ?_
          refine va_get (D := D) (ci := 0) (v := .ref sr) (C := RX0) (T := TX0) (N := 9) hx hb hts hinX0 hown hK hP 0 rfl rfl 8 (by decide) (hts (.fieldLink RX0 25 "SlicedCipher" "scratch" "[I") (by decide +kernel)) (fun _ h9 => h9) rfl dX0_maskByCounter_53 ?_
          refine lv_iconst (v := nI 0) hx hb dX0_maskByCounter_56 (by decide) ?_
          refine wk_Sv (As := [.ref tp, .int (nI (4 * k)), .ref sr, .int (nI 0)]) (rest := []) (wc := [(tp, .inl (cI, 256, .inl (cMT F (va_cpy S C 0 0 4) f k))), (sr, .inl (cI, 4, .inl (cMR F (va_cpy S C 0 0 4) R (k + 1))))]) (wr := [(h0, .inr (0, [.ref kw, .int kb, .int kr, .ref sc, .ref so, .ref tp, .int (nI (4 * nb)), .ref ct, .ref sr])), (sc, .inl (cI, 140, .inl F)), (so, .inl (cI, 4, .inl S)), (ct, .inl (cI, 4, .inl (cCnt (va_cpy S C 0 0 4) k)))]) (w1 := [(tp, .inl (cI, 256, .inl (xbF (cMT F (va_cpy S C 0 0 4) f k) (4 * k) (cMR F (va_cpy S C 0 0 4) R (k + 1)) 0 4))), (sr, .inl (cI, 4, .inl (cMR F (va_cpy S C 0 0 4) R (k + 1))))]) (w2 := [(h0, .inr (0, [.ref kw, .int kb, .int kr, .ref sc, .ref so, .ref tp, .int (nI (4 * nb)), .ref ct, .ref sr])), (sc, .inl (cI, 140, .inl F)), (so, .inl (cI, 4, .inl S)), (tp, .inl (cI, 256, .inl (xbF (cMT F (va_cpy S C 0 0 4) f k) (4 * k) (cMR F (va_cpy S C 0 0 4) R (k + 1)) 0 4))), (ct, .inl (cI, 4, .inl (cCnt (va_cpy S C 0 0 4) k))), (sr, .inl (cI, 4, .inl (cMR F (va_cpy S C 0 0 4) R (k + 1))))]) ⟨hx, hb, hml, hown, hts⟩ (c_X0_xorBlock l D cI _ tp (4 * k) sr 0 256 4 (cMT F (va_cpy S C 0 0 4) f k) (cMR F (va_cpy S C 0 0 4) R (k + 1)) (by omega) (by decide) (by decide) (by decide)) (va_cwS 4 hts gX0_maskByCounter_X0_xorBlock rfl rfl rfl (by decide +kernel) ⟨Nat.le_of_ble_eq_true rfl, Nat.le_of_ble_eq_true rfl⟩) (fun _ _ _ _ h => h) (fun _ _ _ _ => trivial) hK hP hD hS hA [3, 5] [0, 1, 2, 4] rfl (by decide) rfl (by decide) (by decide) [0, 1, 2, 4, 3, 5] rfl (by decide) rfl hl.1 rfl (Nat.le_of_ble_eq_true rfl) dX0_maskByCounter_57 ⟨Nat.zero_le _, Nat.zero_le _⟩ (fun H locs hP hD hS => ?_)
          rw [xb_eq, show ld4 (cMR F (va_cpy S C 0 0 4) R (k + 1)) 0 = cEnc F (ld4 (cCnt (va_cpy S C 0 0 4) k) 0) from ld4_st4 _ _ _] at hP hD
          have hP : va_P D vwCl [(h0, .inr (0, [.ref kw, .int kb, .int kr, .ref sc, .ref so, .ref tp, .int (nI (4 * nb)), .ref ct, .ref sr])), (sc, .inl (cI, 140, .inl F)), (so, .inl (cI, 4, .inl S)), (tp, .inl (cI, 256, .inl (cMT F (va_cpy S C 0 0 4) f (k + 1)))), (ct, .inl (cI, 4, .inl (cCnt (va_cpy S C 0 0 4) k))), (sr, .inl (cI, 4, .inl (cMR F (va_cpy S C 0 0 4) R (k + 1))))] H := hP
          have hD : va_D A [(h0, .inr (0, [.ref kw, .int kb, .int kr, .ref sc, .ref so, .ref tp, .int (nI (4 * nb)), .ref ct, .ref sr])), (sc, .inl (cI, 140, .inl F)), (so, .inl (cI, 4, .inl S)), (tp, .inl (cI, 256, .inl (cMT F (va_cpy S C 0 0 4) f (k + 1)))), (ct, .inl (cI, 4, .inl (cCnt (va_cpy S C 0 0 4) k))), (sr, .inl (cI, 4, .inl (cMR F (va_cpy S C 0 0 4) R (k + 1))))] := hD
          refine lv_aload_n hx hb dX0_maskByCounter_60 rfl (lv_at hl 0 rfl) ?_
          refine wk_Vv (b := h0) (As := []) (rest := []) (wc := [(h0, .inr (0, [.ref kw, .int kb, .int kr, .ref sc, .ref so, .ref tp, .int (nI (4 * nb)), .ref ct, .ref sr])), (ct, .inl (cI, 4, .inl (cCnt (va_cpy S C 0 0 4) k)))]) (wr := [(sc, .inl (cI, 140, .inl F)), (so, .inl (cI, 4, .inl S)), (tp, .inl (cI, 256, .inl (cMT F (va_cpy S C 0 0 4) f (k + 1)))), (sr, .inl (cI, 4, .inl (cMR F (va_cpy S C 0 0 4) R (k + 1))))]) (w1 := [(h0, .inr (0, [.ref kw, .int kb, .int kr, .ref sc, .ref so, .ref tp, .int (nI (4 * nb)), .ref ct, .ref sr])), (ct, .inl (cI, 4, .inl (cInc (cCnt (va_cpy S C 0 0 4) k))))]) (w2 := [(h0, .inr (0, [.ref kw, .int kb, .int kr, .ref sc, .ref so, .ref tp, .int (nI (4 * nb)), .ref ct, .ref sr])), (sc, .inl (cI, 140, .inl F)), (so, .inl (cI, 4, .inl S)), (tp, .inl (cI, 256, .inl (cMT F (va_cpy S C 0 0 4) f (k + 1)))), (ct, .inl (cI, 4, .inl (cInc (cCnt (va_cpy S C 0 0 4) k)))), (sr, .inl (cI, 4, .inl (cMR F (va_cpy S C 0 0 4) R (k + 1))))]) (ci := 0) (q0 := 0) ⟨hx, hb, hml, hown, hts⟩ (c_X0_countOneMore l D cI _ h0 kw sc so tp ct sr kb kr (nI (4 * nb)) (cCnt (va_cpy S C 0 0 4) k)) (cwV 0 hts gX0_maskByCounter_X0_countOneMore rfl rfl rfl (by decide +kernel) ⟨Nat.le_of_ble_eq_true rfl, Nat.le_of_ble_eq_true rfl⟩) (fun _ _ _ _ h => h) (fun _ _ _ _ => trivial) hK hP hD hS hA rfl rfl [0, 4] [1, 2, 3, 5] rfl (by decide) rfl (by decide) (by decide) [4, 0, 1, 2, 5, 3] rfl (by decide) rfl hl.1 rfl (Nat.le_of_ble_eq_true rfl) dX0_maskByCounter_61 ⟨Nat.zero_le _, Nat.zero_le _⟩ (fun H locs hP hD hS => ?_)
          refine lv_iinc (v := nI (4 * k + 4)) (lv' := [(1, .int (nI (4 * k + 4))), (0, .ref h0)]) hx hb dX0_maskByCounter_64 hl (k := 1) rfl (wk_inc (4 * k) (by decide)) (by decide) rfl (fun ls hl => ?_)
          refine lv_goto (tgt := 16) hx hb dX0_maskByCounter_67 (by decide) ?_
          exact ih (k + 1) (by omega) (by omega) _ _ hP hD hS ls (lv_sub hl [1, 0] rfl)
  refine lv_aload_n hx hb dX0_maskByCounter_0 rfl (lv_at hl 0 rfl) ?_
  refine va_get (D := D) (ci := 0) (v := .ref so) (C := RX0) (T := TX0) (N := 9) hx hb hts hinX0 hown hK hP 0 rfl rfl 4 (by decide) (hts (.fieldLink RX0 16 "SlicedCipher" "startWords" "[I") (by decide +kernel)) (fun _ h9 => h9) rfl dX0_maskByCounter_1 ?_
  refine lv_iconst (v := nI 0) hx hb dX0_maskByCounter_4 (by decide) ?_
  refine lv_aload_n hx hb dX0_maskByCounter_5 rfl (lv_at hl 0 rfl) ?_
  refine va_get (D := D) (ci := 0) (v := .ref ct) (C := RX0) (T := TX0) (N := 9) hx hb hts hinX0 hown hK hP 0 rfl rfl 7 (by decide) (hts (.fieldLink RX0 22 "SlicedCipher" "counter" "[I") (by decide +kernel)) (fun _ h9 => h9) rfl dX0_maskByCounter_6 ?_
  refine lv_iconst (v := nI 0) hx hb dX0_maskByCounter_9 (by decide) ?_
  refine lv_iconst (v := nI 4) hx hb dX0_maskByCounter_10 (by decide) ?_
  refine va_copyi (ty := .int) (sp := nI 0) (dp := nI 0) (n := nI 4) hx hb (by rw [hml]; exact hl.1.symm) hown (hts (.methodLink RX0 145 arraycopyName) (by decide +kernel)) (hts (.native arraycopyName) (by decide +kernel)) (hts (.static arraycopyName) (by decide +kernel)) (hts (.initialized "java/lang/System") (by decide +kernel)) hK hP hD hS 2 4 0 0 rfl rfl rfl rfl rfl (by decide) (by decide) (by decide) (by decide) (by decide) (fun _ _ => rfl) (by decide) (Nat.le_of_ble_eq_true rfl) dX0_maskByCounter_11 (fun H locs hP hD hS => ?_)
  have hP : va_P D vwCl [(h0, .inr (0, [.ref kw, .int kb, .int kr, .ref sc, .ref so, .ref tp, .int (nI (4 * nb)), .ref ct, .ref sr])), (sc, .inl (cI, 140, .inl F)), (so, .inl (cI, 4, .inl S)), (tp, .inl (cI, 256, .inl f)), (ct, .inl (cI, 4, .inl (va_cpy S C 0 0 4))), (sr, .inl (cI, 4, .inl R))] H := hP
  have hD : va_D A [(h0, .inr (0, [.ref kw, .int kb, .int kr, .ref sc, .ref so, .ref tp, .int (nI (4 * nb)), .ref ct, .ref sr])), (sc, .inl (cI, 140, .inl F)), (so, .inl (cI, 4, .inl S)), (tp, .inl (cI, 256, .inl f)), (ct, .inl (cI, 4, .inl (va_cpy S C 0 0 4))), (sr, .inl (cI, 4, .inl R))] := hD
  refine lv_iconst (v := nI 0) hx hb dX0_maskByCounter_14 (by decide) ?_
  refine lv_istore_n (lv' := [(1, .int (nI 0)), (0, .ref h0)]) hx hb dX0_maskByCounter_15 rfl hl (by decide) rfl (fun ls hl => ?_)
  exact lp (nb + 1) 0 (by omega) (by omega) _ _ hP hD hS ls (lv_sub hl [1, 0] rfl)
end
section
/-! ===== Int32 by its bits: bt x i ===== -/
def bt (x : Int32) (i : Nat) : Bool := x.toBitVec.getLsbD i
theorem b_ext {x y : Int32} (h : ∀ i, i < 32 → bt x i = bt y i) : x = y := Int32.toBitVec_inj.mp (BitVec.eq_of_getLsbD_eq (fun i hi => h i hi))
theorem b_or (x y : Int32) (i : Nat) : bt (x ||| y) i = (bt x i || bt y i) := by unfold bt; rw [Int32.toBitVec_or, BitVec.getLsbD_or]
theorem b_and (x y : Int32) (i : Nat) : bt (x &&& y) i = (bt x i && bt y i) := by unfold bt; rw [Int32.toBitVec_and, BitVec.getLsbD_and]
theorem b_xor (x y : Int32) (i : Nat) : bt (x ^^^ y) i = (bt x i ^^ bt y i) := by unfold bt; rw [Int32.toBitVec_xor, BitVec.getLsbD_xor]
theorem b_big {x : Int32} {i : Nat} (h : 32 ≤ i) : bt x i = false := BitVec.getLsbD_of_ge _ _ h
theorem b_255 (i : Nat) : bt 255 i = decide (i < 8) := by
  rcases Nat.lt_or_ge i 32 with h | h
  · exact (by decide +kernel : ∀ i, i < 32 → bt 255 i = decide (i < 8)) i h
  · rw [b_big h, decide_eq_false (by omega)]
theorem b_65535 (i : Nat) : bt 65535 i = decide (i < 16) := by
  rcases Nat.lt_or_ge i 32 with h | h
  · exact (by decide +kernel : ∀ i, i < 32 → bt 65535 i = decide (i < 16)) i h
  · rw [b_big h, decide_eq_false (by omega)]
theorem b_m1 : ∀ i, i < 32 → bt (-1) i = true := by decide +kernel
theorem b_0 (i : Nat) : bt 0 i = false := BitVec.getLsbD_zero
theorem s_l : ∀ n, n < 32 → ((nI n &&& 31).toBitVec.smod 32).toNat = n := by decide +kernel
theorem s_u : ∀ n, n < 32 → (((nI n).toUInt32 &&& Int32.toUInt32 31).toBitVec % 32).toNat = n := by decide +kernel
theorem b_shl (n : Nat) (hn : n < 32) (x : Int32) {i : Nat} (hi : i < 32) : bt (x <<< (nI n &&& 31)) i = (decide (n ≤ i) && bt x (i - n)) := by
  unfold bt
  rw [Int32.toBitVec_shiftLeft]
  show (x.toBitVec <<< ((nI n &&& 31).toBitVec.smod 32).toNat).getLsbD i = _
  rw [s_l n hn, BitVec.getLsbD_shiftLeft]
  rcases Nat.lt_or_ge i n with h | h
  · simp [h, Nat.not_le.mpr h]
  · simp [hi, h, Nat.not_lt.mpr h]
theorem b_ushr (n : Nat) (hn : n < 32) (x : Int32) (i : Nat) : bt ((x.toUInt32 >>> ((nI n).toUInt32 &&& Int32.toUInt32 31)).toInt32) i = bt x (n + i) := by
  show (x.toUInt32 >>> ((nI n).toUInt32 &&& Int32.toUInt32 31)).toBitVec.getLsbD i = x.toUInt32.toBitVec.getLsbD (n + i)
  rw [UInt32.toBitVec_shiftRight]
  show (x.toUInt32.toBitVec >>> (((nI n).toUInt32 &&& Int32.toUInt32 31).toBitVec % 32).toNat).getLsbD i = _
  rw [s_u n hn, BitVec.getLsbD_ushiftRight]
theorem b_sshr (n : Nat) (hn : n < 32) (x : Int32) {i : Nat} (hi : i < 32) : bt (x >>> (nI n &&& 31)) i = if n + i < 32 then bt x (n + i) else bt x 31 := by
  unfold bt
  rw [Int32.toBitVec_shiftRight]
  show (x.toBitVec.sshiftRight ((nI n &&& 31).toBitVec.smod 32).toNat).getLsbD i = _
  rw [s_l n hn, BitVec.getLsbD_sshiftRight, BitVec.msb_eq_getLsbD_last]
  simp [hi]
/-! ===== own rows over these ===== -/
theorem b_nI (v : Nat) {i : Nat} (hi : i < 32) : bt (nI v) i = v.testBit i := by
  show (BitVec.ofNat 32 v).getLsbD i = _
  rw [BitVec.getLsbD_ofNat, decide_eq_true hi, Bool.true_and]
theorem tn_inj {x y : Int32} (h : x.toBitVec.toNat = y.toBitVec.toNat) : x = y := Int32.toBitVec_inj.mp (BitVec.eq_of_toNat_eq h)
theorem add_or {x y : Int32} (h : x &&& y = 0) : x + y = x ||| y := by
  apply Int32.toBitVec_inj.mp
  rw [Int32.toBitVec_add, Int32.toBitVec_or]
  refine BitVec.add_eq_or_of_and_eq_zero _ _ ?_
  have h1 := congrArg Int32.toBitVec h
  rw [Int32.toBitVec_and] at h1
  exact h1
theorem b_neg (x : Int32) : x < 0 ↔ bt x 31 = true := by
  have h : bt x 31 = decide (x.toBitVec.toInt < 0) := by rw [← BitVec.msb_eq_toInt, BitVec.msb_eq_getLsbD_last]; rfl
  rw [h, decide_eq_true_eq, Int32.lt_iff_toInt_lt]
  rfl
theorem dbl (x : Int32) : x + x = x <<< (nI 1 &&& 31) := by
  apply tn_inj
  rw [pk_shl x (nI 1 &&& 31) 1 (by decide +kernel), Int32.toBitVec_add, BitVec.toNat_add]
  congr 1
  omega
theorem mul8 (x : Int32) : x * nI 8 = x <<< (nI 3 &&& 31) := by
  apply tn_inj
  rw [pk_shl x (nI 3 &&& 31) 3 (by decide +kernel), Int32.toBitVec_mul, BitVec.toNat_mul]
  rfl
theorem mul128 (x : Int32) : x * nI 128 = x <<< (nI 7 &&& 31) := by
  apply tn_inj
  rw [pk_shl x (nI 7 &&& 31) 7 (by decide +kernel), Int32.toBitVec_mul, BitVec.toNat_mul]
  rfl
/-- one turn to the left, as the reference does it -/
def mStep (x : Int32) : Int32 := (x + x) + (if x < 0 then nI 1 else nI 0)
theorem b_step (x : Int32) {i : Nat} (hi : i < 32) : bt (mStep x) i = if i = 0 then bt x 31 else bt x (i - 1) := by
  unfold mStep
  rw [dbl]
  have hz : (x <<< (nI 1 &&& 31)) &&& nI 1 = 0 := by
    apply b_ext
    intro k hk
    rw [b_and, b_shl 1 (by omega) x hk, b_nI 1 hk, b_0]
    rcases k with _ | k
    · rfl
    · have : Nat.testBit 1 (k + 1) = false := by simp [Nat.testBit_succ]
      rw [this, Bool.and_false]
  by_cases hn : x < 0
  · rw [if_pos hn, add_or hz, b_or, b_shl 1 (by omega) x hi, b_nI 1 hi]
    rcases i with _ | i
    · rw [if_pos rfl, (b_neg x).mp hn]; rfl
    · have : Nat.testBit 1 (i + 1) = false := by simp [Nat.testBit_succ]
      rw [if_neg (by omega), this, Bool.or_false, decide_eq_true (by omega), Bool.true_and]
  · have h31 : bt x 31 = false := by
      rcases hb : bt x 31 with _ | _
      · rfl
      · exact absurd ((b_neg x).mpr hb) hn
    rw [if_neg hn, show nI 0 = (0 : Int32) from rfl, Int32.add_zero, b_shl 1 (by omega) x hi]
    rcases i with _ | i
    · rw [if_pos rfl, h31]; rfl
    · rw [if_neg (by omega), decide_eq_true (by omega), Bool.true_and]
def mL (v : Int32) : Nat → Int32
  | 0 => v
  | i + 1 => mStep (mL v i)
theorem b_mL (v : Int32) : ∀ (n : Nat), n ≤ 32 → ∀ {i : Nat}, i < 32 → bt (mL v n) i = bt v ((i + (32 - n)) % 32) := by
  intro n
  induction n with
  | zero =>
    intro _ i hi
    show bt v i = _
    congr 1
    omega
  | succ n ih =>
    intro hn i hi
    show bt (mStep (mL v n)) i = _
    rw [b_step _ hi]
    by_cases h0 : i = 0
    · rw [if_pos h0, ih (by omega) (by omega)]
      congr 1
      omega
    · rw [if_neg h0, ih (by omega) (by omega)]
      congr 1
      omega
theorem neg_u : ∀ n, n < 32 → 0 < n → ((-(nI n)).toUInt32 &&& Int32.toUInt32 31) = ((nI (32 - n)).toUInt32 &&& Int32.toUInt32 31) := by decide +kernel
theorem neg_l : ∀ n, n < 32 → 0 < n → (-(nI n)) &&& 31 = (nI (32 - n) &&& 31 : Int32) := by decide +kernel
theorem b_rotL (x : Int32) {n : Nat} (h0 : 0 < n) (hn : n < 32) {i : Nat} (hi : i < 32) : bt (rotL x (nI n)) i = bt x ((i + (32 - n)) % 32) := by
  unfold rotL
  rw [neg_u n hn h0, b_or, b_shl n hn x hi, b_ushr (32 - n) (by omega)]
  by_cases h : n ≤ i
  · rw [decide_eq_true h, Bool.true_and, b_big (x := x) (i := 32 - n + i) (by omega), Bool.or_false]
    congr 1
    omega
  · rw [decide_eq_false h, Bool.false_and, Bool.false_or]
    congr 1
    omega
theorem b_rotR (x : Int32) {n : Nat} (h0 : 0 < n) (hn : n < 32) {i : Nat} (hi : i < 32) : bt (rotR x (nI n)) i = bt x ((i + n) % 32) := by
  unfold rotR
  rw [neg_l n hn h0, b_or, b_shl (32 - n) (by omega) x hi, b_ushr n hn]
  by_cases h : 32 - n ≤ i
  · rw [decide_eq_true h, Bool.true_and, b_big (x := x) (i := n + i) (by omega), Bool.false_or]
    congr 1
    omega
  · rw [decide_eq_false h, Bool.false_and, Bool.or_false]
    congr 1
    omega
theorem mL_rotL (v : Int32) {n : Nat} (h0 : 0 < n) (hn : n < 32) : mL v n = rotL v (nI n) := b_ext fun i hi => by rw [b_mL v n (by omega) hi, b_rotL v h0 hn hi]
theorem mL_rotR (v : Int32) {n : Nat} (h0 : 0 < n) (hn : n < 32) : mL v (32 - n) = rotR v (nI n) := b_ext fun i hi => by
  rw [b_mL v (32 - n) (by omega) hi, b_rotR v h0 hn hi]
  congr 1
  omega
theorem t255 : ∀ i, i < 32 → bt (nI 255) i = decide (i < 8) := by decide +kernel
/-- a byte of a word: by either shift -/
theorem byte_sh (x : Int32) {q : Nat} (hq : q < 4) : (x >>> (nI (8 * q) &&& 31)) &&& nI 255 = ((x.toUInt32 >>> ((nI (8 * q)).toUInt32 &&& Int32.toUInt32 31)).toInt32) &&& nI 255 := b_ext fun i hi => by
  rw [b_and, b_and, t255 i hi]
  by_cases h : i < 8
  · rw [b_sshr (8 * q) (by omega) x hi, b_ushr (8 * q) (by omega), if_pos (by omega)]
  · rw [decide_eq_false h, Bool.and_false, Bool.and_false]
theorem cKB_byte (K : Nat → Int32) (kb n : Nat) : ∃ b, b < 256 ∧ cKB K kb n = nI b := by
  unfold cKB
  by_cases h : n < kb
  · rw [if_pos h]
    exact pk_andE _ 8 (by decide +kernel)
  · rw [if_neg h]
    by_cases h2 : n = kb
    · exact ⟨1, by omega, if_pos h2⟩
    · exact ⟨0, by omega, if_neg h2⟩
theorem b_byte {b i : Nat} (hb : b < 256) (h8 : 8 ≤ i) : bt (nI b) i = false := by
  rcases Nat.lt_or_ge i 32 with h | h
  · rw [b_nI b h]
    exact Nat.testBit_lt_two_pow (Nat.lt_of_lt_of_le hb (Nat.pow_le_pow_right (n := 2) (by omega) h8))
  · exact b_big h
theorem shl0 (x : Int32) : x <<< (nI 0 &&& 31) = x := b_ext fun i hi => by
  rw [b_shl 0 (by omega) x hi]
  simp
theorem z_or (x : Int32) : nI 0 ||| x = x := b_ext fun i hi => by rw [b_or, show nI 0 = (0 : Int32) from rfl, b_0, Bool.false_or]
/-- a key's word out of its four bytes, added -/
theorem cKW_sum (K : Nat → Int32) (kb wd : Nat) : ((cKB K kb (4 * wd) + (cKB K kb (4 * wd + 1) <<< (nI 8 &&& 31))) + (cKB K kb (4 * wd + 2) <<< (nI 16 &&& 31))) + (cKB K kb (4 * wd + 3) <<< (nI 24 &&& 31)) = cKW K kb wd 4 := by
  obtain ⟨b0, h0, e0⟩ := cKB_byte K kb (4 * wd)
  obtain ⟨b1, h1, e1⟩ := cKB_byte K kb (4 * wd + 1)
  obtain ⟨b2, h2, e2⟩ := cKB_byte K kb (4 * wd + 2)
  obtain ⟨b3, h3, e3⟩ := cKB_byte K kb (4 * wd + 3)
  show _ = (((nI 0 ||| (cKB K kb (4 * wd) <<< (nI (8 * 0) &&& 31))) ||| (cKB K kb (4 * wd + 1) <<< (nI (8 * 1) &&& 31))) ||| (cKB K kb (4 * wd + 2) <<< (nI (8 * 2) &&& 31))) ||| (cKB K kb (4 * wd + 3) <<< (nI (8 * 3) &&& 31))
  rw [e0, e1, e2, e3, shl0, z_or]
  have s1 : nI b0 + (nI b1 <<< (nI 8 &&& 31)) = nI b0 ||| (nI b1 <<< (nI 8 &&& 31)) := add_or (b_ext fun i hi => by
    rw [b_and, b_0, b_shl 8 (by omega) _ hi]
    by_cases h : 8 ≤ i
    · rw [b_byte h0 h, Bool.false_and]
    · rw [decide_eq_false h, Bool.false_and, Bool.and_false])
  have s2 : (nI b0 ||| (nI b1 <<< (nI 8 &&& 31))) + (nI b2 <<< (nI 16 &&& 31)) = (nI b0 ||| (nI b1 <<< (nI 8 &&& 31))) ||| (nI b2 <<< (nI 16 &&& 31)) := add_or (b_ext fun i hi => by
    rw [b_and, b_0, b_or, b_shl 8 (by omega) _ hi, b_shl 16 (by omega) _ hi]
    by_cases h : 16 ≤ i
    · rw [b_byte h0 (by omega), b_byte h1 (i := i - 8) (by omega), Bool.and_false, Bool.or_false, Bool.false_and]
    · rw [decide_eq_false h, Bool.false_and, Bool.and_false])
  have s3 : ((nI b0 ||| (nI b1 <<< (nI 8 &&& 31))) ||| (nI b2 <<< (nI 16 &&& 31))) + (nI b3 <<< (nI 24 &&& 31)) = ((nI b0 ||| (nI b1 <<< (nI 8 &&& 31))) ||| (nI b2 <<< (nI 16 &&& 31))) ||| (nI b3 <<< (nI 24 &&& 31)) := add_or (b_ext fun i hi => by
    rw [b_and, b_0, b_or, b_or, b_shl 8 (by omega) _ hi, b_shl 16 (by omega) _ hi, b_shl 24 (by omega) _ hi]
    by_cases h : 24 ≤ i
    · rw [b_byte h0 (by omega), b_byte h1 (i := i - 8) (by omega), b_byte h2 (i := i - 16) (by omega), Bool.and_false, Bool.and_false, Bool.or_false, Bool.or_false, Bool.false_and]
    · rw [decide_eq_false h, Bool.false_and, Bool.and_false])
  rw [s1, s2, s3]
end
section
/-! ===== a box, place by place, and thirty-two places at once ===== -/
def bN (x : Int32) (i : Nat) : Nat := if bt x i = true then 1 else 0
theorem bN_lt (x : Int32) (i : Nat) : bN x i < 2 := by unfold bN; split <;> omega
theorem sh1 (x : Int32) {q : Nat} (hq : q < 32) : (x >>> (nI q &&& 31)) &&& nI 1 = nI (bN x q) := b_ext fun i hi => by
  rw [b_and, b_sshr q hq x hi, b_nI 1 hi, b_nI _ hi]
  unfold bN
  rcases i with _ | i
  · rw [if_pos (by omega), Nat.add_zero]
    rcases bt x q <;> rfl
  · have h1 : Nat.testBit 1 (i + 1) = false := by simp [Nat.testBit_succ]
    have h2 : Nat.testBit (if bt x q = true then 1 else 0) (i + 1) = false := by split <;> simp [Nat.testBit_succ]
    rw [h1, h2, Bool.and_false]
theorem and1 (x : Int32) : x &&& nI 1 = nI (bN x 0) := b_ext fun i hi => by
  rw [b_and, b_nI 1 hi, b_nI _ hi]
  unfold bN
  rcases i with _ | i
  · rcases bt x 0 <;> rfl
  · have h1 : Nat.testBit 1 (i + 1) = false := by simp [Nat.testBit_succ]
    have h2 : Nat.testBit (if bt x 0 = true then 1 else 0) (i + 1) = false := by split <;> simp [Nat.testBit_succ]
    rw [h1, h2, Bool.and_false]
theorem b_lbe (y : Int32) {i : Nat} (hi : i < 32) : bt (lbe y) i = bt y 0 := by
  unfold lbe
  rw [and1]
  unfold bN
  rcases hb : bt y 0 with _ | _
  · rw [if_neg (by decide)]
    exact (by decide +kernel : ∀ i, i < 32 → bt (-(nI 0)) i = false) i hi
  · rw [if_pos rfl]
    exact (by decide +kernel : ∀ i, i < 32 → bt (-(nI 1)) i = true) i hi
theorem b_plw (w y : Int32) {i : Nat} (hi : i < 32) : bt (plw w y) i = (bt w i == bt y 0) := by
  unfold plw
  rw [b_xor, b_xor, b_lbe y hi, b_m1 i hi]
  rcases bt w i <;> rcases bt y 0 <;> rfl
/-- what a box makes of a number: forth, back -/
def boxV : Nat → Nat → Nat → Int32
  | 0, wh, v => TB (16 * wh + v)
  | _ + 1, wh, v => nI (cSrc wh (nI v) 16)
def pbB (bk wh : Nat) (b0 b1 b2 b3 : Bool) (k : Nat) : Nat → Bool
  | 0 => false
  | j + 1 => pbB bk wh b0 b1 b2 b3 k j || (((((b0 == bt (pbFrom bk wh j) 0) && (b1 == bt (pbFrom bk wh j) 1)) && (b2 == bt (pbFrom bk wh j) 2)) && (b3 == bt (pbFrom bk wh j) 3)) && bt (pbTo bk wh j) k)
def n4 (b0 b1 b2 b3 : Bool) : Nat := 2 * (2 * (2 * (2 * 0 + (if b3 = true then 1 else 0)) + (if b2 = true then 1 else 0)) + (if b1 = true then 1 else 0)) + (if b0 = true then 1 else 0)
theorem pb_fin0 : ∀ wh, wh < 8 → ∀ b0 b1 b2 b3 : Bool, ∀ k, k < 4 → pbB 0 wh b0 b1 b2 b3 k 16 = bt (boxV 0 wh (n4 b0 b1 b2 b3)) k := by decide +kernel
theorem pb_fin1 : ∀ wh, wh < 8 → ∀ b0 b1 b2 b3 : Bool, ∀ k, k < 4 → pbB 1 wh b0 b1 b2 b3 k 16 = bt (boxV 1 wh (n4 b0 b1 b2 b3)) k := by decide +kernel
theorem b_sh0 (x : Int32) {q : Nat} (hq : q < 32) : bt (x >>> (nI q &&& 31)) 0 = bt x q := by
  rw [b_sshr q hq x (by omega), if_pos (by omega), Nat.add_zero]
theorem b_pbPl (bk wh : Nat) (x : Qd) (j : Nat) {i : Nat} (hi : i < 32) : bt (pbPl bk wh x j) i = ((((bt x.1 i == bt (pbFrom bk wh j) 0) && (bt x.2.1 i == bt (pbFrom bk wh j) 1)) && (bt x.2.2.1 i == bt (pbFrom bk wh j) 2)) && (bt x.2.2.2 i == bt (pbFrom bk wh j) 3)) := by
  unfold pbPl
  rw [b_and, b_and, b_and, b_plw _ _ hi, b_plw _ _ hi, b_plw _ _ hi, b_plw _ _ hi, b_sh0 _ (by omega), b_sh0 _ (by omega), b_sh0 _ (by omega)]
theorem b_pbN (bk wh : Nat) (x : Qd) {i : Nat} (hi : i < 32) : ∀ n : Nat, bt (pbN bk wh x n).1 i = pbB bk wh (bt x.1 i) (bt x.2.1 i) (bt x.2.2.1 i) (bt x.2.2.2 i) 0 n ∧ bt (pbN bk wh x n).2.1 i = pbB bk wh (bt x.1 i) (bt x.2.1 i) (bt x.2.2.1 i) (bt x.2.2.2 i) 1 n ∧ bt (pbN bk wh x n).2.2.1 i = pbB bk wh (bt x.1 i) (bt x.2.1 i) (bt x.2.2.1 i) (bt x.2.2.2 i) 2 n ∧ bt (pbN bk wh x n).2.2.2 i = pbB bk wh (bt x.1 i) (bt x.2.1 i) (bt x.2.2.1 i) (bt x.2.2.2 i) 3 n := by
  intro n
  induction n with
  | zero => exact ⟨b_0 i, b_0 i, b_0 i, b_0 i⟩
  | succ n ih =>
    obtain ⟨h0, h1, h2, h3⟩ := ih
    refine ⟨?_, ?_, ?_, ?_⟩
    · show bt ((pbN bk wh x n).1 ||| (pbPl bk wh x n &&& lbe (pbTo bk wh n))) i = _
      rw [b_or, b_and, h0, b_lbe _ hi, b_pbPl bk wh x n hi]
      rfl
    · show bt ((pbN bk wh x n).2.1 ||| (pbPl bk wh x n &&& lbe (pbTo bk wh n >>> (nI 1 &&& 31)))) i = _
      rw [b_or, b_and, h1, b_lbe _ hi, b_pbPl bk wh x n hi, b_sh0 _ (by omega)]
      rfl
    · show bt ((pbN bk wh x n).2.2.1 ||| (pbPl bk wh x n &&& lbe (pbTo bk wh n >>> (nI 2 &&& 31)))) i = _
      rw [b_or, b_and, h2, b_lbe _ hi, b_pbPl bk wh x n hi, b_sh0 _ (by omega)]
      rfl
    · show bt ((pbN bk wh x n).2.2.2 ||| (pbPl bk wh x n &&& lbe (pbTo bk wh n >>> (nI 3 &&& 31)))) i = _
      rw [b_or, b_and, h3, b_lbe _ hi, b_pbPl bk wh x n hi, b_sh0 _ (by omega)]
      rfl
/-- the number at a place of a block -/
def nibR (b : Nat → Int32) (pl : Nat) : Nat → Nat
  | 0 => 0
  | c + 1 => (2 * nibR b pl c) + bN (b (3 - c)) pl
theorem nibR_4 (b : Nat → Int32) (pl : Nat) : nibR b pl 4 = n4 (bt (b 0) pl) (bt (b 1) pl) (bt (b 2) pl) (bt (b 3) pl) := rfl
theorem nibR_lt (b : Nat → Int32) (pl : Nat) : nibR b pl 4 < 16 := by
  have h0 := bN_lt (b 0) pl
  have h1 := bN_lt (b 1) pl
  have h2 := bN_lt (b 2) pl
  have h3 := bN_lt (b 3) pl
  show 2 * (2 * (2 * (2 * 0 + bN (b 3) pl) + bN (b 2) pl) + bN (b 1) pl) + bN (b 0) pl < 16
  omega
def mAcc (bk wh : Nat) (b : Nat → Int32) (k : Nat) : Nat → Int32
  | 0 => nI 0
  | pl + 1 => mAcc bk wh b k pl ||| ((((boxV bk wh (nibR b pl 4)) >>> (nI k &&& 31)) &&& nI 1) <<< (nI pl &&& 31))
theorem b_mAcc (bk wh : Nat) (b : Nat → Int32) {k : Nat} (hk : k < 4) {i : Nat} (hi : i < 32) : ∀ n : Nat, n ≤ 32 → bt (mAcc bk wh b k n) i = (decide (i < n) && bt (boxV bk wh (nibR b i 4)) k) := by
  intro n
  induction n with
  | zero =>
    intro _
    rw [decide_eq_false (by omega), Bool.false_and]
    exact b_0 i
  | succ n ih =>
    intro hn
    show bt (mAcc bk wh b k n ||| ((((boxV bk wh (nibR b n 4)) >>> (nI k &&& 31)) &&& nI 1) <<< (nI n &&& 31))) i = _
    rw [b_or, ih (by omega), sh1 _ (by omega), b_shl n (by omega) _ hi]
    rcases Nat.lt_trichotomy i n with h | h | h
    · rw [decide_eq_true h, decide_eq_false (show ¬ n ≤ i by omega), decide_eq_true (show i < n + 1 by omega), Bool.false_and, Bool.or_false]
    · subst h
      rw [decide_eq_false (Nat.lt_irrefl i), decide_eq_true (Nat.le_refl i), decide_eq_true (Nat.lt_succ_self i), Nat.sub_self, Bool.false_and, Bool.false_or, Bool.true_and, Bool.true_and, b_nI _ (by omega)]
      unfold bN
      rcases bt (boxV bk wh (nibR b i 4)) k <;> rfl
    · rw [decide_eq_false (show ¬ i < n by omega), decide_eq_true (show n ≤ i by omega), decide_eq_false (show ¬ i < n + 1 by omega), Bool.false_and, Bool.false_or, Bool.true_and, b_nI _ (by omega)]
      obtain ⟨q, hq⟩ : ∃ q, i - n = q + 1 := ⟨i - n - 1, by omega⟩
      rw [hq]
      unfold bN
      split <;> simp [Nat.testBit_succ]
theorem pb_fin {bk wh : Nat} (hb : bk < 2) (hw : wh < 8) (b0 b1 b2 b3 : Bool) {k : Nat} (hk : k < 4) : pbB bk wh b0 b1 b2 b3 k 16 = bt (boxV bk wh (n4 b0 b1 b2 b3)) k := by
  rcases bk with _ | bk
  · exact pb_fin0 wh hw b0 b1 b2 b3 k hk
  · obtain rfl : bk = 0 := by omega
    exact pb_fin1 wh hw b0 b1 b2 b3 k hk
/-- the reference's box is the class's -/
theorem box_eq {bk wh : Nat} (hb : bk < 2) (hw : wh < 8) (b : Nat → Int32) : (mAcc bk wh b 0 32, mAcc bk wh b 1 32, mAcc bk wh b 2 32, mAcc bk wh b 3 32) = cBox bk wh (ld4 b 0) := by
  have hx : ∀ k, k < 4 → ∀ i, i < 32 → bt (mAcc bk wh b k 32) i = pbB bk wh (bt (b 0) i) (bt (b 1) i) (bt (b 2) i) (bt (b 3) i) k 16 := fun k hk i hi => by
    rw [b_mAcc bk wh b hk hi 32 (by omega), decide_eq_true hi, Bool.true_and, nibR_4, pb_fin hb hw _ _ _ _ hk]
  have e0 : mAcc bk wh b 0 32 = (cBox bk wh (ld4 b 0)).1 := b_ext fun i hi => (hx 0 (by omega) i hi).trans (b_pbN bk wh (ld4 b 0) hi 16).1.symm
  have e1 : mAcc bk wh b 1 32 = (cBox bk wh (ld4 b 0)).2.1 := b_ext fun i hi => (hx 1 (by omega) i hi).trans (b_pbN bk wh (ld4 b 0) hi 16).2.1.symm
  have e2 : mAcc bk wh b 2 32 = (cBox bk wh (ld4 b 0)).2.2.1 := b_ext fun i hi => (hx 2 (by omega) i hi).trans (b_pbN bk wh (ld4 b 0) hi 16).2.2.1.symm
  have e3 : mAcc bk wh b 3 32 = (cBox bk wh (ld4 b 0)).2.2.2 := b_ext fun i hi => (hx 3 (by omega) i hi).trans (b_pbN bk wh (ld4 b 0) hi 16).2.2.2.symm
  rw [e0, e1, e2, e3]
theorem iv_fin : ∀ wh, wh < 8 → ∀ v, v < 16 → cSrc wh (nI v) 16 < 16 ∧ TB (16 * wh + cSrc wh (nI v) 16) = nI v ∧ ∀ k, k < 16 → TB (16 * wh + k) = nI v → k = cSrc wh (nI v) 16 := by decide +kernel
end
section
/-! calls whose end is known but for some rows, and calls that change cells and answer an int -/
section
variable {p : Program} {l : Launch} {e : Env} {R : Room} {s : State} {m : MethodId} {args : Array Value} {below : List Frame} {meth : Method} {c : Code} {H : Heap} {locs : List Loc} {cells slots : Nat} {Q : State → Prop} {cc : ByteArray} {pc : Nat} {ls : Array Slot} {rest : List Value}
variable {y : MethodName} {bytes : ByteArray} {maxL nL n index : Nat} {ret : Option FieldType} {wy : List Cond} {rm : Room} {Ts : List Cond} {own C : String} {As st0 : List Value} {D : va_G} {tys : List (ClassId × FieldType)} {ws wc wr : va_W} {A : Nat → Prop} {X : State → Prop} {b : Nat} {U : Type} {w1 w2 : U → va_W}
theorem wk_VE {post : U → Prop} {ci q0 : Nat} {q9 : vw_C} {fs : List Value} (S : CallFix p m c cc nL s args Ts own) (hM : Met l y wy rm (va_Pc (.ref b :: As) (fun V => PW D tys wc H.size V ∧ X V)) (va_Qv post (fun u => BW D tys (va_A wc H.size) (w1 u)) (va_A wc H.size)) 0 0 (va_A wc H.size)) (cw : CallW R s args own q9.1 index y bytes maxL ret wy rm 0 0 n)
    (hXb : ∀ (V : State) (g : JFrame) (mk : MethodId) (a : Array Value), X V → X (V.calling g mk a)) (hX : (∀ q, va_A wc H.size q → A q) → ∀ V : State, V.heap = H → s.WarmedH V.vm → X V) (hK : va_K D vwCl tys s) (hP : va_P D vwCl ws H) (hD : va_D A ws) (hS : va_S A s.heap H locs) (hA : ∀ q : Nat, s.heap.size ≤ q → A q) (hc : vwCl[ci]? = some q9) (he : ws[q0]? = some (b, .inr (ci, fs)))
    (isC isR : List Nat) (hC : isC.map (fun i => ws[i]?) = wc.map some) (hnC : va_nd isC = true) (hR : isR.map (fun i => ws[i]?) = wr.map some) (hnR : va_nd isR = true) (hdis : ∀ i ∈ isR, i ∉ isC) (isF : List Nat) (hF : ∀ u, isF.map (fun i => (wr ++ w1 u)[i]?) = (w2 u).map some) (hnF : va_nd isF = true)
    (hn : As.length = n) (hsize : ls.size = nL) (hst : st0 = As.reverse ++ .ref b :: rest) (hW : (rest.map fun v => v.category).sum ≤ 8) (hdg : decode cc pc = .ok (.invokevirtual index, 3)) (hf : cells ≤ R.cells ∧ slots ≤ R.slots)
    (kk : ∀ (u : U) (H1 : Heap) (locs1 : List Loc), post u → va_P D vwCl (w2 u) H1 → va_D A (w2 u) → va_S A s.heap H1 locs1 → W p l e R s m args below meth c H1 locs1 cells slots Q (F0 m (pc + 3) ls rest)) : W p l e R s m args below meth c H locs cells slots Q (F0 m pc ls st0) := by
  have hPc := hP.sub (ws' := wc) isC (fm_of_map _ _ _ hC)
  have hDc := hD.sub (ws' := wc) isC hnC hC
  have hFc := va_free (wc := wc) hD hS hA isC hC
  refine va_callv (va_runV (As := As) (rest := rest) S hM cw ⟨fun a V g mk h => ⟨h.1, PW.call g mk a h.2.1, hXb V g mk a h.2.2⟩, va_recv hK hP hc he, fun V hU hW9 => ⟨rfl, ⟨by rw [hU], by rw [hU]; exact hPc, va_K.moved hW9.alike hK, hDc.weaken (fun _ _ _ _ => trivial)⟩, hX hFc V hU hW9⟩⟩ rfl hn hsize hst (lv_room hW) hdg hf) hS (fun q _ h => hFc q h) hFc (fun u t H1 locs1 ht hvm hw hB hz1 hk1 hS1 => ?_)
  obtain ⟨hP1, hK1, hD1⟩ := hB
  rw [ht] at hP1
  obtain ⟨hP2, hD2⟩ := va_join (wr := wr) (w1 := w1 u) hP hD isC isR hC hR hnR hdis hk1 hFc hP1 hD1
  exact kk u H1 locs1 hw (hP2.sub isF (fm_of_map _ _ _ (hF u))) (hD2.sub isF hnF (hF u)) hS1
theorem wk_VI {post : Int32 → U → Prop} {ci q0 : Nat} {q9 : vw_C} {fs : List Value} (S : CallFix p m c cc nL s args Ts own) (hM : Met l y wy rm (va_Pc (.ref b :: As) (fun V => PW D tys wc H.size V ∧ X V)) (va_Qi post (fun u => BW D tys (va_A wc H.size) (w1 u)) (va_A wc H.size)) 0 0 (va_A wc H.size)) (cw : CallW R s args own q9.1 index y bytes maxL ret wy rm 0 0 n)
    (hXb : ∀ (V : State) (g : JFrame) (mk : MethodId) (a : Array Value), X V → X (V.calling g mk a)) (hX : (∀ q, va_A wc H.size q → A q) → ∀ V : State, V.heap = H → s.WarmedH V.vm → X V) (hK : va_K D vwCl tys s) (hP : va_P D vwCl ws H) (hD : va_D A ws) (hS : va_S A s.heap H locs) (hA : ∀ q : Nat, s.heap.size ≤ q → A q) (hc : vwCl[ci]? = some q9) (he : ws[q0]? = some (b, .inr (ci, fs)))
    (isC isR : List Nat) (hC : isC.map (fun i => ws[i]?) = wc.map some) (hnC : va_nd isC = true) (hR : isR.map (fun i => ws[i]?) = wr.map some) (hnR : va_nd isR = true) (hdis : ∀ i ∈ isR, i ∉ isC) (isF : List Nat) (hF : ∀ u, isF.map (fun i => (wr ++ w1 u)[i]?) = (w2 u).map some) (hnF : va_nd isF = true)
    (hn : As.length = n) (hsize : ls.size = nL) (hst : st0 = As.reverse ++ .ref b :: rest) (hW : (rest.map fun v => v.category).sum ≤ 8) (hdg : decode cc pc = .ok (.invokevirtual index, 3)) (hf : cells ≤ R.cells ∧ slots ≤ R.slots)
    (kk : ∀ (r : Int32) (u : U) (H1 : Heap) (locs1 : List Loc), post r u → va_P D vwCl (w2 u) H1 → va_D A (w2 u) → va_S A s.heap H1 locs1 → W p l e R s m args below meth c H1 locs1 cells slots Q (F0 m (pc + 3) ls (.int r :: rest))) : W p l e R s m args below meth c H locs cells slots Q (F0 m pc ls st0) := by
  have hPc := hP.sub (ws' := wc) isC (fm_of_map _ _ _ hC)
  have hDc := hD.sub (ws' := wc) isC hnC hC
  have hFc := va_free (wc := wc) hD hS hA isC hC
  refine va_calli (va_runV (As := As) (rest := rest) S hM cw ⟨fun a V g mk h => ⟨h.1, PW.call g mk a h.2.1, hXb V g mk a h.2.2⟩, va_recv hK hP hc he, fun V hU hW9 => ⟨rfl, ⟨by rw [hU], by rw [hU]; exact hPc, va_K.moved hW9.alike hK, hDc.weaken (fun _ _ _ _ => trivial)⟩, hX hFc V hU hW9⟩⟩ rfl hn hsize hst (lv_room hW) hdg hf) hS (fun q _ h => hFc q h) hFc (fun r u t H1 locs1 ht hvm hw hB hz1 hk1 hS1 => ?_)
  obtain ⟨hP1, hK1, hD1⟩ := hB
  rw [ht] at hP1
  obtain ⟨hP2, hD2⟩ := va_join (wr := wr) (w1 := w1 u) hP hD isC isR hC hR hnR hdis hk1 hFc hP1 hD1
  exact kk r u H1 locs1 hw (hP2.sub isF (fm_of_map _ _ _ (hF u))) (hD2.sub isF hnF (hF u)) hS1
end
/-! pure: rows of four copied, xored; a block's words by their places -/
def cpI (b f : Nat → Int32) (off : Nat) : Nat → Nat → Int32
  | 0 => b
  | j + 1 => upd (cpI b f off j) j (f (off + j))
def cpO (f b : Nat → Int32) (off : Nat) : Nat → Nat → Int32
  | 0 => f
  | j + 1 => upd (cpO f b off j) (off + j) (b j)
def cpZ (b f : Nat → Int32) : Nat → Nat → Int32
  | 0 => b
  | j + 1 => upd (cpZ b f j) j (f j)
def cp0 (b : Nat → Int32) : Nat → Nat → Int32
  | 0 => b
  | j + 1 => upd (cp0 b j) j (nI 0)
theorem cpI_4 (b f : Nat → Int32) (off : Nat) : cpI b f off 4 = st4 b 0 (ld4 f off) := rfl
theorem cpO_4 (f b : Nat → Int32) (off : Nat) : cpO f b off 4 = st4 f off (ld4 b 0) := rfl
theorem cpZ_4 (b f : Nat → Int32) : cpZ b f 4 = st4 b 0 (ld4 f 0) := rfl
theorem cp0_4 (b : Nat → Int32) : cp0 b 4 = st4 b 0 (nI 0, nI 0, nI 0, nI 0) := rfl
def mX (b Rn : Nat → Int32) (r : Nat) : Nat → Nat → Int32
  | 0 => b
  | j + 1 => upd (mX b Rn r j) j (mX b Rn r j j ^^^ Rn ((4 * r) + j))
/-- the reference's round keys, where the class has its own -/
def shf (Rn : Nat → Int32) : Nat → Int32 := fun i => Rn (i - 8)
theorem ld4_shf (Rn : Nat → Int32) (n : Nat) : ld4 (shf Rn) (8 + n) = ld4 Rn n := by
  unfold ld4 shf
  rw [show 8 + n - 8 = n from by omega, show 8 + n + 1 - 8 = n + 1 from by omega, show 8 + n + 2 - 8 = n + 2 from by omega, show 8 + n + 3 - 8 = n + 3 from by omega]
theorem mX_4 (b Rn : Nat → Int32) (r : Nat) : mX b Rn r 4 = st4 b 0 (x4 (ld4 b 0) (ld4 (shf Rn) (8 + 4 * r))) := by
  rw [ld4_shf]
  funext j
  simp [mX, st4, upd, x4, ld4]
theorem up_0 (b : Nat → Int32) (x0 x1 x2 x3 v : Int32) : upd (st4 b 0 (x0, x1, x2, x3)) 0 v = st4 b 0 (v, x1, x2, x3) := by
  funext j
  by_cases h3 : j = 3 <;> by_cases h2 : j = 2 <;> by_cases h1 : j = 1 <;> by_cases h0 : j = 0 <;> simp [st4, upd, *]
theorem up_1 (b : Nat → Int32) (x0 x1 x2 x3 v : Int32) : upd (st4 b 0 (x0, x1, x2, x3)) 1 v = st4 b 0 (x0, v, x2, x3) := by
  funext j
  by_cases h3 : j = 3 <;> by_cases h2 : j = 2 <;> by_cases h1 : j = 1 <;> by_cases h0 : j = 0 <;> simp [st4, upd, *]
theorem up_2 (b : Nat → Int32) (x0 x1 x2 x3 v : Int32) : upd (st4 b 0 (x0, x1, x2, x3)) 2 v = st4 b 0 (x0, x1, v, x3) := by
  funext j
  by_cases h3 : j = 3 <;> by_cases h2 : j = 2 <;> by_cases h1 : j = 1 <;> by_cases h0 : j = 0 <;> simp [st4, upd, *]
theorem up_3 (b : Nat → Int32) (x0 x1 x2 x3 v : Int32) : upd (st4 b 0 (x0, x1, x2, x3)) 3 v = st4 b 0 (x0, x1, x2, v) := by
  funext j
  by_cases h3 : j = 3 <;> by_cases h2 : j = 2 <;> by_cases h1 : j = 1 <;> by_cases h0 : j = 0 <;> simp [st4, upd, *]
/-- one turn of the inner loop of 'through': the four words get their bits of one place -/
def inF (d : Nat → Int32) (to : Int32) (pl : Nat) : Nat → Nat → Int32
  | 0 => d
  | k + 1 => upd (inF d to pl k) k (inF d to pl k k ||| (((to >>> (nI k &&& 31)) &&& nI 1) <<< (nI pl &&& 31)))
theorem inF_4 (d : Nat → Int32) (x0 x1 x2 x3 to : Int32) (pl : Nat) : inF (st4 d 0 (x0, x1, x2, x3)) to pl 4 = st4 d 0 (x0 ||| (((to >>> (nI 0 &&& 31)) &&& nI 1) <<< (nI pl &&& 31)), x1 ||| (((to >>> (nI 1 &&& 31)) &&& nI 1) <<< (nI pl &&& 31)), x2 ||| (((to >>> (nI 2 &&& 31)) &&& nI 1) <<< (nI pl &&& 31)), x3 ||| (((to >>> (nI 3 &&& 31)) &&& nI 1) <<< (nI pl &&& 31))) := by
  funext j
  by_cases h3 : j = 3 <;> by_cases h2 : j = 2 <;> by_cases h1 : j = 1 <;> by_cases h0 : j = 0 <;> simp [inF, st4, upd, *]
def mQ (bk wh : Nat) (b : Nat → Int32) (pl : Nat) : Qd := (mAcc bk wh b 0 pl, mAcc bk wh b 1 pl, mAcc bk wh b 2 pl, mAcc bk wh b 3 pl)
theorem mQ_step (bk wh : Nat) (b d : Nat → Int32) (pl : Nat) : inF (st4 d 0 (mQ bk wh b pl)) (boxV bk wh (nibR b pl 4)) pl 4 = st4 d 0 (mQ bk wh b (pl + 1)) := inF_4 d _ _ _ _ _ pl
theorem TB_c (wh v : Nat) : TB (wh * 16 + v) = TB (16 * wh + v) := by rw [Nat.mul_comm]
set_option maxHeartbeats 4000000 in
set_option maxRecDepth 100000 in
theorem c_X1_isIn1 (l : Launch) (v lo hi : Int32) (h1 : ¬ v < lo) (h2 : ¬ hi < v) : Met l yX1_isIn wsX1_isIn ({ frames := 0, cells := 0, slots := 0, locals := 0 }) (va_Pc [.int v, .int lo, .int hi] (fun _ => True)) (vp_Si (fun r9 => r9 = nI 1)) 0 0 (fun _ => False) := by
  refine Met.ofW (cc := cX1_isIn) (maxL := 3) (ret := (some .boolean)) (by decide) rfl ?_
  intro p e s m args below meth c s₁ B hml hv
  obtain ⟨rfl, -⟩ := hv
  have hx := B.exec
  have hb := B.bytes
  have hr := B.returns
  have hts := atoms_spec (ws := wsX1_isIn) B.pre
  have hown : s.vm.findClass RX1 = some m.cls := findClass_of_methodNamed B.named
  have hlocks := B.notSynchronized
  have hl := lv_entry ([.int v, .int lo, .int hi]) (n := 3) (Nat.le_of_ble_eq_true rfl)
  rw [lg_entry_eq]
  generalize (lg_sl ([.int v, .int lo, .int hi]) ++ List.replicate (3 - (lg_sl ([.int v, .int lo, .int hi])).length) Slot.unset).toArray = ls at hl ⊢
  have hl : lv_has ls 3 [(0, .int v), (1, .int lo), (2, .int hi)] := hl
  refine lv_iload_n hx hb dX1_isIn_0 rfl (lv_at hl 0 rfl) ?_
  refine lv_iload_n hx hb dX1_isIn_1 rfl (lv_at hl 1 rfl) ?_
  refine lv_icmp_lt (tgt := 14) hx hb dX1_isIn_2 (by decide) (fun c2 => absurd c2 (h1)) (fun c2 => ?_)
  refine lv_iload_n hx hb dX1_isIn_5 rfl (lv_at hl 0 rfl) ?_
  refine lv_iload_n hx hb dX1_isIn_6 rfl (lv_at hl 2 rfl) ?_
  refine lv_icmp_gt (tgt := 14) hx hb dX1_isIn_7 (by decide) (fun c7 => absurd c7 (h2)) (fun c7 => ?_)
  refine lv_iconst (v := nI 1) hx hb dX1_isIn_10 (by decide) ?_
  refine lv_goto (tgt := 15) hx hb dX1_isIn_11 (by decide) ?_
  exact W.zret (v := nI 1) (ty := .boolean) hx hb hr rfl (fun t ht hW => ⟨_, rfl, rfl, ht⟩) (fun q h => absurd h List.not_mem_nil) dX1_isIn_15
set_option maxHeartbeats 4000000 in
set_option maxRecDepth 100000 in
theorem c_X1_isIn0a (l : Launch) (v lo hi : Int32) (h1 : v < lo) : Met l yX1_isIn wsX1_isIn ({ frames := 0, cells := 0, slots := 0, locals := 0 }) (va_Pc [.int v, .int lo, .int hi] (fun _ => True)) (vp_Si (fun r9 => r9 = nI 0)) 0 0 (fun _ => False) := by
  refine Met.ofW (cc := cX1_isIn) (maxL := 3) (ret := (some .boolean)) (by decide) rfl ?_
  intro p e s m args below meth c s₁ B hml hv
  obtain ⟨rfl, -⟩ := hv
  have hx := B.exec
  have hb := B.bytes
  have hr := B.returns
  have hts := atoms_spec (ws := wsX1_isIn) B.pre
  have hown : s.vm.findClass RX1 = some m.cls := findClass_of_methodNamed B.named
  have hlocks := B.notSynchronized
  have hl := lv_entry ([.int v, .int lo, .int hi]) (n := 3) (Nat.le_of_ble_eq_true rfl)
  rw [lg_entry_eq]
  generalize (lg_sl ([.int v, .int lo, .int hi]) ++ List.replicate (3 - (lg_sl ([.int v, .int lo, .int hi])).length) Slot.unset).toArray = ls at hl ⊢
  have hl : lv_has ls 3 [(0, .int v), (1, .int lo), (2, .int hi)] := hl
  refine lv_iload_n hx hb dX1_isIn_0 rfl (lv_at hl 0 rfl) ?_
  refine lv_iload_n hx hb dX1_isIn_1 rfl (lv_at hl 1 rfl) ?_
  refine lv_icmp_lt (tgt := 14) hx hb dX1_isIn_2 (by decide) (fun c2 => ?_) (fun c2 => absurd c2 (fun h => h h1))
  refine lv_iconst (v := nI 0) hx hb dX1_isIn_14 (by decide) ?_
  exact W.zret (v := nI 0) (ty := .boolean) hx hb hr rfl (fun t ht hW => ⟨_, rfl, rfl, ht⟩) (fun q h => absurd h List.not_mem_nil) dX1_isIn_15
set_option maxHeartbeats 4000000 in
set_option maxRecDepth 100000 in
theorem c_X1_isIn0b (l : Launch) (v lo hi : Int32) (h1 : ¬ v < lo) (h2 : hi < v) : Met l yX1_isIn wsX1_isIn ({ frames := 0, cells := 0, slots := 0, locals := 0 }) (va_Pc [.int v, .int lo, .int hi] (fun _ => True)) (vp_Si (fun r9 => r9 = nI 0)) 0 0 (fun _ => False) := by
  refine Met.ofW (cc := cX1_isIn) (maxL := 3) (ret := (some .boolean)) (by decide) rfl ?_
  intro p e s m args below meth c s₁ B hml hv
  obtain ⟨rfl, -⟩ := hv
  have hx := B.exec
  have hb := B.bytes
  have hr := B.returns
  have hts := atoms_spec (ws := wsX1_isIn) B.pre
  have hown : s.vm.findClass RX1 = some m.cls := findClass_of_methodNamed B.named
  have hlocks := B.notSynchronized
  have hl := lv_entry ([.int v, .int lo, .int hi]) (n := 3) (Nat.le_of_ble_eq_true rfl)
  rw [lg_entry_eq]
  generalize (lg_sl ([.int v, .int lo, .int hi]) ++ List.replicate (3 - (lg_sl ([.int v, .int lo, .int hi])).length) Slot.unset).toArray = ls at hl ⊢
  have hl : lv_has ls 3 [(0, .int v), (1, .int lo), (2, .int hi)] := hl
  refine lv_iload_n hx hb dX1_isIn_0 rfl (lv_at hl 0 rfl) ?_
  refine lv_iload_n hx hb dX1_isIn_1 rfl (lv_at hl 1 rfl) ?_
  refine lv_icmp_lt (tgt := 14) hx hb dX1_isIn_2 (by decide) (fun c2 => absurd c2 (h1)) (fun c2 => ?_)
  refine lv_iload_n hx hb dX1_isIn_5 rfl (lv_at hl 0 rfl) ?_
  refine lv_iload_n hx hb dX1_isIn_6 rfl (lv_at hl 2 rfl) ?_
  refine lv_icmp_gt (tgt := 14) hx hb dX1_isIn_7 (by decide) (fun c7 => ?_) (fun c7 => absurd c7 (fun h => h h2))
  refine lv_iconst (v := nI 0) hx hb dX1_isIn_14 (by decide) ?_
  exact W.zret (v := nI 0) (ty := .boolean) hx hb hr rfl (fun t ht hW => ⟨_, rfl, rfl, ht⟩) (fun q h => absurd h List.not_mem_nil) dX1_isIn_15
set_option maxHeartbeats 4000000 in
set_option maxRecDepth 100000 in
theorem c_X1_left0 (l : Launch) (v : Int32) (n : Nat) (hn : n ≤ 32) : Met l yX1_left wsX1_left ({ frames := 0, cells := 0, slots := 0, locals := 0 }) (va_Pc [.int v, .int (nI n)] (fun _ => True)) (vp_Si (fun r9 => r9 = mL v n)) 0 0 (fun _ => False) := by
  refine Met.ofW (cc := cX1_left) (maxL := 4) (ret := (some .int)) (by decide) rfl ?_
  intro p e s m args below meth c s₁ B hml hv
  obtain ⟨rfl, -⟩ := hv
  have hx := B.exec
  have hb := B.bytes
  have hr := B.returns
  have hts := atoms_spec (ws := wsX1_left) B.pre
  have hown : s.vm.findClass RX1 = some m.cls := findClass_of_methodNamed B.named
  have hlocks := B.notSynchronized
  have hl := lv_entry ([.int v, .int (nI n)]) (n := 4) (Nat.le_of_ble_eq_true rfl)
  rw [lg_entry_eq]
  generalize (lg_sl ([.int v, .int (nI n)]) ++ List.replicate (4 - (lg_sl ([.int v, .int (nI n)])).length) Slot.unset).toArray = ls at hl ⊢
  have hl : lv_has ls 4 [(0, .int v), (1, .int (nI n))] := hl
  have lp : ∀ (fu : Nat) (i : Nat), i ≤ n → n + 1 ≤ i + fu → ∀ (ls : Array Slot), lv_has ls 4 [(0, .int v), (1, .int (nI n)), (2, .int (mL v i)), (3, .int (nI i))] → W p l e ((headSpec wsX1_left ({ frames := 0, cells := 0, slots := 0, locals := 0 })).room) s m ([.int v, .int (nI n)] : List Value).toArray below meth c s.heap [] 0 0 (MQ below (vp_Si (fun r9 => r9 = mL v n)) ([.int v, .int (nI n)] : List Value).toArray s 0 0 (fun _ => False)) (F0 m 4 ls []) := by
    intro fu
    induction fu with
      | zero => intro i hi hfu; exact absurd hfu (by omega)
      | succ fu ih =>
        intro i hi hfu ls hl
        refine lv_iload_n hx hb dX1_left_4 rfl (lv_at hl 3 rfl) ?_
        refine lv_iload_n hx hb dX1_left_5 rfl (lv_at hl 1 rfl) ?_
        refine wk_geN (tgt := 29) hx hb (a := i) (b := n) (by omega) (by omega) dX1_left_6 (by decide) (fun c6 => ?_) (fun c6 => ?_)
        · obtain rfl : n = i := by omega
          refine lv_iload_n hx hb dX1_left_29 rfl (lv_at hl 2 rfl) ?_
          exact W.iret (v := mL v n) hx hb hr (fun t ht hW => ⟨_, rfl, rfl, ht⟩) (fun q h => absurd h List.not_mem_nil) dX1_left_30
        · refine lv_iload_n hx hb dX1_left_9 rfl (lv_at hl 2 rfl) ?_
          refine lv_iload_n hx hb dX1_left_10 rfl (lv_at hl 2 rfl) ?_
          refine lv_iadd hx hb dX1_left_11 ?_
          refine lv_iload_n hx hb dX1_left_12 rfl (lv_at hl 2 rfl) ?_
          refine lv_if_ge (tgt := 20) hx hb dX1_left_13 (by decide) (fun c13 => ?_) (fun c13 => ?_)
          · have c13 : ¬ mL v i < 0 := Int32.not_lt.mpr c13
            refine lv_iconst (v := nI 0) hx hb dX1_left_20 (by decide) ?_
            refine lv_iadd hx hb dX1_left_21 ?_
            refine wk_i (y := mL v (i + 1)) (by show _ = mStep (mL v i); unfold mStep; first | rw [if_pos c13] | rw [if_neg c13]) ?_
            refine lv_istore_n (lv' := [(2, .int (mL v (i + 1))), (0, .int v), (1, .int (nI n)), (3, .int (nI i))]) hx hb dX1_left_22 rfl hl (by decide) rfl (fun ls hl => ?_)
            refine lv_iinc (v := nI (i + 1)) (lv' := [(3, .int (nI (i + 1))), (2, .int (mL v (i + 1))), (0, .int v), (1, .int (nI n))]) hx hb dX1_left_23 hl (k := 3) rfl (wk_inc i (by decide)) (by decide) rfl (fun ls hl => ?_)
            refine lv_goto (tgt := 4) hx hb dX1_left_26 (by decide) ?_
            exact ih (i + 1) (by omega) (by omega) ls (lv_sub hl [2, 3, 1, 0] rfl)
          · have c13 : mL v i < 0 := Int32.not_le.mp c13
            refine lv_iconst (v := nI 1) hx hb dX1_left_16 (by decide) ?_
            refine lv_goto (tgt := 21) hx hb dX1_left_17 (by decide) ?_
            refine lv_iadd hx hb dX1_left_21 ?_
            refine wk_i (y := mL v (i + 1)) (by show _ = mStep (mL v i); unfold mStep; first | rw [if_pos c13] | rw [if_neg c13]) ?_
            refine lv_istore_n (lv' := [(2, .int (mL v (i + 1))), (0, .int v), (1, .int (nI n)), (3, .int (nI i))]) hx hb dX1_left_22 rfl hl (by decide) rfl (fun ls hl => ?_)
            refine lv_iinc (v := nI (i + 1)) (lv' := [(3, .int (nI (i + 1))), (2, .int (mL v (i + 1))), (0, .int v), (1, .int (nI n))]) hx hb dX1_left_23 hl (k := 3) rfl (wk_inc i (by decide)) (by decide) rfl (fun ls hl => ?_)
            refine lv_goto (tgt := 4) hx hb dX1_left_26 (by decide) ?_
            exact ih (i + 1) (by omega) (by omega) ls (lv_sub hl [2, 3, 1, 0] rfl)
  refine lv_iload_n hx hb dX1_left_0 rfl (lv_at hl 0 rfl) ?_
  refine lv_istore_n (lv' := [(2, .int v), (0, .int v), (1, .int (nI n))]) hx hb dX1_left_1 rfl hl (by decide) rfl (fun ls hl => ?_)
  refine lv_iconst (v := nI 0) hx hb dX1_left_2 (by decide) ?_
  refine lv_istore_n (lv' := [(3, .int (nI 0)), (2, .int v), (0, .int v), (1, .int (nI n))]) hx hb dX1_left_3 rfl hl (by decide) rfl (fun ls hl => ?_)
  exact lp (n + 1) 0 (by omega) (by omega) ls (lv_sub hl [2, 3, 1, 0] rfl)
theorem c_X1_left (l : Launch) (v : Int32) (n : Nat) (h0 : 0 < n) (hn : n < 32) : Met l yX1_left wsX1_left ({ frames := 0, cells := 0, slots := 0, locals := 0 }) (va_Pc [.int v, .int (nI n)] (fun _ => True)) (vp_Si (fun r9 => r9 = rotL v (nI n))) 0 0 (fun _ => False) := by
  rw [← mL_rotL v h0 hn]
  exact c_X1_left0 l v n (by omega)
set_option maxHeartbeats 4000000 in
set_option maxRecDepth 100000 in
theorem c_X1_right (l : Launch) (v : Int32) (n : Nat) (h0 : 0 < n) (hn : n < 32) : Met l yX1_right wsX1_right ({ frames := 1, cells := 0, slots := 0, locals := 23 }) (va_Pc [.int v, .int (nI n)] (fun _ => True)) (vp_Si (fun r9 => r9 = rotR v (nI n))) 0 0 (fun _ => False) := by
  refine Met.ofW (cc := cX1_right) (maxL := 2) (ret := (some .int)) (by decide) rfl ?_
  intro p e s m args below meth c s₁ B hml hv
  obtain ⟨rfl, -⟩ := hv
  have hx := B.exec
  have hb := B.bytes
  have hr := B.returns
  have hts := atoms_spec (ws := wsX1_right) B.pre
  have hown : s.vm.findClass RX1 = some m.cls := findClass_of_methodNamed B.named
  have hlocks := B.notSynchronized
  have hl := lv_entry ([.int v, .int (nI n)]) (n := 2) (Nat.le_of_ble_eq_true rfl)
  rw [lg_entry_eq]
  generalize (lg_sl ([.int v, .int (nI n)]) ++ List.replicate (2 - (lg_sl ([.int v, .int (nI n)])).length) Slot.unset).toArray = ls at hl ⊢
  have hl : lv_has ls 2 [(0, .int v), (1, .int (nI n))] := hl
  refine lv_iload_n hx hb dX1_right_0 rfl (lv_at hl 0 rfl) ?_
  refine lv_bipush (v := nI 32) hx hb dX1_right_1 (by decide) ?_
  refine lv_iload_n hx hb dX1_right_3 rfl (lv_at hl 1 rfl) ?_
  refine wk_isubN hx hb (a := 32) (b := n) (by omega) dX1_right_4 ?_
  refine wk_Sp (v := mL v (32 - n)) (As := [.int v, .int (nI (32 - n))]) (rest := []) ⟨hx, hb, hml, hown, hts⟩ (c_X1_left0 l v (32 - n) (by omega)) (va_cwS 2 hts gX1_right_X1_left rfl rfl rfl (by decide +kernel) ⟨Nat.le_of_ble_eq_true rfl, Nat.le_of_ble_eq_true rfl⟩) rfl hl.1 rfl (Nat.le_of_ble_eq_true rfl) dX1_right_5 ⟨Nat.zero_le _, Nat.zero_le _⟩ ?_
  exact W.iret (v := mL v (32 - n)) hx hb hr (fun t ht hW => ⟨_, rfl, mL_rotR v h0 hn, ht⟩) (fun q h => absurd h List.not_mem_nil) dX1_right_8
set_option maxRecDepth 100000 in
theorem in_X1_keyByte : ∀ w ∈ wsX10, w ∈ wsX1_keyByte := by decide +kernel
set_option maxHeartbeats 4000000 in
set_option maxRecDepth 100000 in
theorem c_X1_keyByte (l : Launch) (D : va_G) (cI : ClassId) (sz : Nat) (h0 a1 a4 a5 a6 a7 a9 a10 a11 a12 : Nat) (th rd zz : Int32) (kb n : Nat) (K : Nat → Int32) (h1 : n < 32) (h2 : kb ≤ 32) : Met l yX1_keyByte wsX1_keyByte ({ frames := 0, cells := 0, slots := 0, locals := 0 }) (va_Pc [.ref h0, .int (nI n)] (fun U => PW D [(cI, .int)] [(h0, .inr (1, [.int th, .ref a1, .int (nI kb), .int rd, .ref a4, .ref a5, .ref a6, .ref a7, .int zz, .ref a9, .ref a10, .ref a11, .ref a12])), (a1, .inl (cI, 8, .inl K))] sz U ∧ True)) (vp_Si (fun r9 => r9 = cKB K kb n)) 0 0 (fun _ => False) := by
  refine Met.ofW (cc := cX1_keyByte) (maxL := 2) (ret := (some .int)) (by decide) rfl ?_
  intro p e s m args below meth c s₁ B hml hv
  obtain ⟨rfl, ⟨hsz, hP, hK, hD0⟩, -⟩ := hv
  have hx := B.exec
  have hb := B.bytes
  have hr := B.returns
  have hts := atoms_spec (ws := wsX1_keyByte) B.pre
  have hown : s.vm.findClass RX1 = some m.cls := findClass_of_methodNamed B.named
  have hlocks := B.notSynchronized
  subst hsz
  have hD := hD0.self (sz := s.heap.size)
  have hinX1 := in_X1_keyByte
  generalize hAe : va_A [(h0, .inr (1, [.int th, .ref a1, .int (nI kb), .int rd, .ref a4, .ref a5, .ref a6, .ref a7, .int zz, .ref a9, .ref a10, .ref a11, .ref a12])), (a1, .inl (cI, 8, .inl K))] s.heap.size = A at hD
  have hA : ∀ q : Nat, s.heap.size ≤ q → A q := fun q h => by rw [← hAe]; exact Or.inr h
  have hS : va_S A s.heap s.heap [] := va_S.rf
  have hl := lv_entry ([.ref h0, .int (nI n)]) (n := 2) (Nat.le_of_ble_eq_true rfl)
  rw [lg_entry_eq]
  generalize (lg_sl ([.ref h0, .int (nI n)]) ++ List.replicate (2 - (lg_sl ([.ref h0, .int (nI n)])).length) Slot.unset).toArray = ls at hl ⊢
  have hl : lv_has ls 2 [(0, .ref h0), (1, .int (nI n))] := hl
  refine lv_iload_n hx hb dX1_keyByte_0 rfl (lv_at hl 1 rfl) ?_
  refine lv_aload_n hx hb dX1_keyByte_1 rfl (lv_at hl 0 rfl) ?_
  refine va_get (D := D) (ci := 1) (v := .int (nI kb)) (C := RX1) (T := TX1) (N := 13) hx hb hts hinX1 hown hK hP 0 rfl rfl 2 (by decide) (hts (.fieldLink RX1 63 "SlicedCipherModel" "bytes" "I") (by decide +kernel)) (fun _ h9 => h9) rfl dX1_keyByte_2 ?_
  refine wk_geN (tgt := 30) hx hb (a := n) (b := kb) (by omega) (by omega) dX1_keyByte_5 (by decide) (fun c5 => ?_) (fun c5 => ?_)
  · refine lv_iload_n hx hb dX1_keyByte_30 rfl (lv_at hl 1 rfl) ?_
    refine lv_aload_n hx hb dX1_keyByte_31 rfl (lv_at hl 0 rfl) ?_
    refine va_get (D := D) (ci := 1) (v := .int (nI kb)) (C := RX1) (T := TX1) (N := 13) hx hb hts hinX1 hown hK hP 0 rfl rfl 2 (by decide) (hts (.fieldLink RX1 63 "SlicedCipherModel" "bytes" "I") (by decide +kernel)) (fun _ h9 => h9) rfl dX1_keyByte_32 ?_
    refine wk_neN (tgt := 42) hx hb (a := n) (b := kb) (by omega) (by omega) dX1_keyByte_35 (by decide) (fun c35 => ?_) (fun c35 => ?_)
    · refine lv_iconst (v := nI 0) hx hb dX1_keyByte_42 (by decide) ?_
      exact W.iret (v := nI 0) hx hb hr (fun t ht hW => ⟨_, rfl, by unfold cKB; rw [if_neg (Nat.not_lt.mpr c5), if_neg c35], ht⟩) (fun q h => absurd h List.not_mem_nil) dX1_keyByte_43
    · refine lv_iconst (v := nI 1) hx hb dX1_keyByte_38 (by decide) ?_
      refine lv_goto (tgt := 43) hx hb dX1_keyByte_39 (by decide) ?_
      exact W.iret (v := nI 1) hx hb hr (fun t ht hW => ⟨_, rfl, by unfold cKB; rw [if_neg (Nat.not_lt.mpr c5), if_pos c35], ht⟩) (fun q h => absurd h List.not_mem_nil) dX1_keyByte_43
  · refine lv_aload_n hx hb dX1_keyByte_8 rfl (lv_at hl 0 rfl) ?_
    refine va_get (D := D) (ci := 1) (v := .ref a1) (C := RX1) (T := TX1) (N := 13) hx hb hts hinX1 hown hK hP 0 rfl rfl 1 (by decide) (hts (.fieldLink RX1 7 "SlicedCipherModel" "told" "[I") (by decide +kernel)) (fun _ h9 => h9) rfl dX1_keyByte_9 ?_
    refine lv_iload_n hx hb dX1_keyByte_12 rfl (lv_at hl 1 rfl) ?_
    refine lv_iconst (v := nI 4) hx hb dX1_keyByte_13 (by decide) ?_
    refine wk_idivN hx hb (a := n) (b := 4) (by omega) (by decide) (by decide) dX1_keyByte_14 ?_
    refine wk_iald hx hb hK hP 1 0 rfl rfl (k := n / 4) (by omega) (by decide) dX1_keyByte_15 ?_
    refine lv_bipush (v := nI 8) hx hb dX1_keyByte_16 (by decide) ?_
    refine lv_iload_n hx hb dX1_keyByte_18 rfl (lv_at hl 1 rfl) ?_
    refine lv_iconst (v := nI 4) hx hb dX1_keyByte_19 (by decide) ?_
    refine wk_iremN hx hb (a := n) (b := 4) (by omega) (by decide) (by decide) dX1_keyByte_20 ?_
    refine wk_imulN hx hb (a := 8) (b := n % 4) dX1_keyByte_21 ?_
    refine lv_ishr hx hb dX1_keyByte_22 ?_
    refine lv_sipush (v := nI 255) hx hb dX1_keyByte_23 (by decide) ?_
    refine lv_iand hx hb dX1_keyByte_26 ?_
    refine lv_goto (tgt := 43) hx hb dX1_keyByte_27 (by decide) ?_
    exact W.iret (v := ((K (n / 4)) >>> ((nI (8 * (n % 4))) &&& 31)) &&& (nI 255)) hx hb hr (fun t ht hW => ⟨_, rfl, (byte_sh _ (Nat.mod_lt _ (by decide))).trans (if_pos c5).symm, ht⟩) (fun q h => absurd h List.not_mem_nil) dX1_keyByte_43
set_option maxRecDepth 100000 in
theorem in_X1_back : ∀ w ∈ wsX10, w ∈ wsX1_back := by decide +kernel
set_option maxHeartbeats 4000000 in
set_option maxRecDepth 100000 in
theorem c_X1_back (l : Launch) (D : va_G) (cI : ClassId) (sz : Nat) (h0 a1 a4 a5 a6 a7 a9 a10 a11 a12 : Nat) (th by0 rd zz : Int32) (wh v : Nat) (h1 : wh < 8) (h2 : v < 16) : Met l yX1_back wsX1_back ({ frames := 0, cells := 0, slots := 0, locals := 0 }) (va_Pc [.ref h0, .int (nI wh), .int (nI v)] (fun U => PW D [(cI, .int)] [(h0, .inr (1, [.int th, .ref a1, .int by0, .int rd, .ref a4, .ref a5, .ref a6, .ref a7, .int zz, .ref a9, .ref a10, .ref a11, .ref a12])), (a9, .inl (cI, 128, .inl TB))] sz U ∧ True)) (vp_Si (fun r9 => r9 = nI (cSrc wh (nI v) 16))) 0 0 (fun _ => False) := by
  refine Met.ofW (cc := cX1_back) (maxL := 4) (ret := (some .int)) (by decide) rfl ?_
  intro p e s m args below meth c s₁ B hml hv
  obtain ⟨rfl, ⟨hsz, hP, hK, hD0⟩, -⟩ := hv
  have hx := B.exec
  have hb := B.bytes
  have hr := B.returns
  have hts := atoms_spec (ws := wsX1_back) B.pre
  have hown : s.vm.findClass RX1 = some m.cls := findClass_of_methodNamed B.named
  have hlocks := B.notSynchronized
  subst hsz
  have hD := hD0.self (sz := s.heap.size)
  have hinX1 := in_X1_back
  generalize hAe : va_A [(h0, .inr (1, [.int th, .ref a1, .int by0, .int rd, .ref a4, .ref a5, .ref a6, .ref a7, .int zz, .ref a9, .ref a10, .ref a11, .ref a12])), (a9, .inl (cI, 128, .inl TB))] s.heap.size = A at hD
  have hA : ∀ q : Nat, s.heap.size ≤ q → A q := fun q h => by rw [← hAe]; exact Or.inr h
  have hS : va_S A s.heap s.heap [] := va_S.rf
  have hl := lv_entry ([.ref h0, .int (nI wh), .int (nI v)]) (n := 4) (Nat.le_of_ble_eq_true rfl)
  rw [lg_entry_eq]
  generalize (lg_sl ([.ref h0, .int (nI wh), .int (nI v)]) ++ List.replicate (4 - (lg_sl ([.ref h0, .int (nI wh), .int (nI v)])).length) Slot.unset).toArray = ls at hl ⊢
  have hl : lv_has ls 4 [(0, .ref h0), (1, .int (nI wh)), (2, .int (nI v))] := hl
  obtain ⟨hv1, hv2, hv3⟩ := iv_fin wh h1 v h2
  have lp : ∀ (fu : Nat) (k : Nat), k ≤ cSrc wh (nI v) 16 → 17 ≤ k + fu → ∀ (ls : Array Slot), lv_has ls 4 [(0, .ref h0), (1, .int (nI wh)), (2, .int (nI v)), (3, .int (nI k))] → W p l e ((headSpec wsX1_back ({ frames := 0, cells := 0, slots := 0, locals := 0 })).room) s m ([.ref h0, .int (nI wh), .int (nI v)] : List Value).toArray below meth c s.heap [] 0 0 (MQ below (vp_Si (fun r9 => r9 = nI (cSrc wh (nI v) 16))) ([.ref h0, .int (nI wh), .int (nI v)] : List Value).toArray s 0 0 (fun _ => False)) (F0 m 2 ls []) := by
    intro fu
    induction fu with
      | zero => intro k hi hfu; exact absurd hfu (by omega)
      | succ fu ih =>
        intro k hi hfu ls hl
        refine lv_aload_n hx hb dX1_back_2 rfl (lv_at hl 0 rfl) ?_
        refine va_get (D := D) (ci := 1) (v := .ref a9) (C := RX1) (T := TX1) (N := 13) hx hb hts hinX1 hown hK hP 0 rfl rfl 9 (by decide) (hts (.fieldLink RX1 25 "SlicedCipherModel" "rows" "[I") (by decide +kernel)) (fun _ h9 => h9) rfl dX1_back_3 ?_
        refine lv_bipush (v := nI 16) hx hb dX1_back_6 (by decide) ?_
        refine lv_iload_n hx hb dX1_back_8 rfl (lv_at hl 1 rfl) ?_
        refine wk_imulN hx hb (a := 16) (b := wh) dX1_back_9 ?_
        refine lv_iload_n hx hb dX1_back_10 rfl (lv_at hl 3 rfl) ?_
        refine wk_iaddN hx hb (a := 16 * wh) (b := k) dX1_back_11 ?_
        refine wk_iald hx hb hK hP 1 0 rfl rfl (k := (16 * wh) + k) (by omega) (by decide) dX1_back_12 ?_
        refine lv_iload_n hx hb dX1_back_13 rfl (lv_at hl 2 rfl) ?_
        refine lv_icmp_eq (tgt := 23) hx hb dX1_back_14 (by decide) (fun c14 => ?_) (fun c14 => ?_)
        · refine lv_iload_n hx hb dX1_back_23 rfl (lv_at hl 3 rfl) ?_
          exact W.iret (v := nI k) hx hb hr (fun t ht hW => ⟨_, rfl, by rw [hv3 k (by omega) c14], ht⟩) (fun q h => absurd h List.not_mem_nil) dX1_back_24
        · have hne : k ≠ cSrc wh (nI v) 16 := fun h9 => c14 (by rw [h9]; exact hv2)
          refine lv_iinc (v := nI (k + 1)) (lv' := [(3, .int (nI (k + 1))), (0, .ref h0), (1, .int (nI wh)), (2, .int (nI v))]) hx hb dX1_back_17 hl (k := 3) rfl (wk_inc k (by decide)) (by decide) rfl (fun ls hl => ?_)
          refine lv_goto (tgt := 2) hx hb dX1_back_20 (by decide) ?_
          exact ih (k + 1) (by omega) (by omega) ls (lv_sub hl [1, 2, 3, 0] rfl)
  refine lv_iconst (v := nI 0) hx hb dX1_back_0 (by decide) ?_
  refine lv_istore_n (lv' := [(3, .int (nI 0)), (0, .ref h0), (1, .int (nI wh)), (2, .int (nI v))]) hx hb dX1_back_1 rfl hl (by decide) rfl (fun ls hl => ?_)
  exact lp 17 0 (by omega) (by omega) ls (lv_sub hl [1, 2, 3, 0] rfl)
end
section
set_option maxRecDepth 100000 in
theorem in_X1_xor : ∀ w ∈ wsX10, w ∈ wsX1_xor := by decide +kernel
set_option maxHeartbeats 4000000 in
set_option maxRecDepth 100000 in
theorem c_X1_xor (l : Launch) (D : va_G) (cI : ClassId) (sz : Nat) (h0 a1 a4 a5 a6 a7 a9 a10 a11 a12 : Nat) (th by0 rd zz : Int32) (r : Nat) (Rn b : Nat → Int32) (h1 : r ≤ 32) : Met l yX1_xor wsX1_xor ({ frames := 0, cells := 0, slots := 0, locals := 0 }) (va_Pc [.ref h0, .int (nI r)] (fun U => PW D [(cI, .int)] [(h0, .inr (1, [.int th, .ref a1, .int by0, .int rd, .ref a4, .ref a5, .ref a6, .ref a7, .int zz, .ref a9, .ref a10, .ref a11, .ref a12])), (a5, .inl (cI, 132, .inl Rn)), (a10, .inl (cI, 4, .inl b))] sz U ∧ True)) (va_Qv (fun _ : Unit => True) (fun _ => BW D [(cI, .int)] (va_A [(h0, .inr (1, [.int th, .ref a1, .int by0, .int rd, .ref a4, .ref a5, .ref a6, .ref a7, .int zz, .ref a9, .ref a10, .ref a11, .ref a12])), (a5, .inl (cI, 132, .inl Rn)), (a10, .inl (cI, 4, .inl b))] sz) [(h0, .inr (1, [.int th, .ref a1, .int by0, .int rd, .ref a4, .ref a5, .ref a6, .ref a7, .int zz, .ref a9, .ref a10, .ref a11, .ref a12])), (a5, .inl (cI, 132, .inl Rn)), (a10, .inl (cI, 4, .inl (st4 b 0 (x4 (ld4 b 0) (ld4 (shf Rn) (8 + 4 * r))))))]) (va_A [(h0, .inr (1, [.int th, .ref a1, .int by0, .int rd, .ref a4, .ref a5, .ref a6, .ref a7, .int zz, .ref a9, .ref a10, .ref a11, .ref a12])), (a5, .inl (cI, 132, .inl Rn)), (a10, .inl (cI, 4, .inl b))] sz)) 0 0 (va_A [(h0, .inr (1, [.int th, .ref a1, .int by0, .int rd, .ref a4, .ref a5, .ref a6, .ref a7, .int zz, .ref a9, .ref a10, .ref a11, .ref a12])), (a5, .inl (cI, 132, .inl Rn)), (a10, .inl (cI, 4, .inl b))] sz) := by
  refine Met.ofW (cc := cX1_xor) (maxL := 3) (ret := none) (by decide) rfl ?_
  intro p e s m args below meth c s₁ B hml hv
  obtain ⟨rfl, ⟨hsz, hP, hK, hD0⟩, -⟩ := hv
  have hx := B.exec
  have hb := B.bytes
  have hr := B.returns
  have hts := atoms_spec (ws := wsX1_xor) B.pre
  have hown : s.vm.findClass RX1 = some m.cls := findClass_of_methodNamed B.named
  have hlocks := B.notSynchronized
  subst hsz
  have hD := hD0.self (sz := s.heap.size)
  have hinX1 := in_X1_xor
  generalize hAe : va_A [(h0, .inr (1, [.int th, .ref a1, .int by0, .int rd, .ref a4, .ref a5, .ref a6, .ref a7, .int zz, .ref a9, .ref a10, .ref a11, .ref a12])), (a5, .inl (cI, 132, .inl Rn)), (a10, .inl (cI, 4, .inl b))] s.heap.size = A at hD ⊢
  have hA : ∀ q : Nat, s.heap.size ≤ q → A q := fun q h => by rw [← hAe]; exact Or.inr h
  have hS : va_S A s.heap s.heap [] := va_S.rf
  have hl := lv_entry ([.ref h0, .int (nI r)]) (n := 3) (Nat.le_of_ble_eq_true rfl)
  rw [lg_entry_eq]
  generalize (lg_sl ([.ref h0, .int (nI r)]) ++ List.replicate (3 - (lg_sl ([.ref h0, .int (nI r)])).length) Slot.unset).toArray = ls at hl ⊢
  have hl : lv_has ls 3 [(0, .ref h0), (1, .int (nI r))] := hl
  have lp : ∀ (fu : Nat) (j : Nat), j ≤ 4 → 4 + 1 ≤ j + fu → ∀ (H : Heap) (locs : List Loc), va_P D vwCl [(h0, .inr (1, [.int th, .ref a1, .int by0, .int rd, .ref a4, .ref a5, .ref a6, .ref a7, .int zz, .ref a9, .ref a10, .ref a11, .ref a12])), (a5, .inl (cI, 132, .inl Rn)), (a10, .inl (cI, 4, .inl (mX b Rn r j)))] H → va_D A [(h0, .inr (1, [.int th, .ref a1, .int by0, .int rd, .ref a4, .ref a5, .ref a6, .ref a7, .int zz, .ref a9, .ref a10, .ref a11, .ref a12])), (a5, .inl (cI, 132, .inl Rn)), (a10, .inl (cI, 4, .inl (mX b Rn r j)))] → va_S A s.heap H locs → ∀ (ls : Array Slot), lv_has ls 3 [(0, .ref h0), (1, .int (nI r)), (2, .int (nI j))] → W p l e ((headSpec wsX1_xor ({ frames := 0, cells := 0, slots := 0, locals := 0 })).room) s m ([.ref h0, .int (nI r)] : List Value).toArray below meth c H locs 0 0 (MQ below (va_Qv (fun _ : Unit => True) (fun _ => BW D [(cI, .int)] A [(h0, .inr (1, [.int th, .ref a1, .int by0, .int rd, .ref a4, .ref a5, .ref a6, .ref a7, .int zz, .ref a9, .ref a10, .ref a11, .ref a12])), (a5, .inl (cI, 132, .inl Rn)), (a10, .inl (cI, 4, .inl (st4 b 0 (x4 (ld4 b 0) (ld4 (shf Rn) (8 + 4 * r))))))]) A) ([.ref h0, .int (nI r)] : List Value).toArray s 0 0 (A)) (F0 m 2 ls []) := by
    intro fu
    induction fu with
      | zero => intro j hij hfj; exact absurd hfj (by omega)
      | succ fu ih =>
        intro j hij hfj H locs hP hD hS ls hl
        refine lv_iload_n hx hb dX1_xor_2 rfl (lv_at hl 2 rfl) ?_
        refine lv_iconst (v := nI 4) hx hb dX1_xor_3 (by decide) ?_
        refine wk_geN (tgt := 36) hx hb (a := j) (b := 4) (by omega) (by decide) dX1_xor_4 (by decide) (fun c4 => ?_) (fun c4 => ?_)
        · obtain rfl : j = 4 := by omega
          rw [mX_4] at hP hD
          exact W.vret hx hb hr (fun t ht hW => ⟨⟨(), rfl, trivial, by rw [ht]; exact hP, va_K.moved hW.alike hK, hD⟩, hS.F ht⟩) hS.2.2 dX1_xor_36
        · refine lv_aload_n hx hb dX1_xor_7 rfl (lv_at hl 0 rfl) ?_
          refine va_get (D := D) (ci := 1) (v := .ref a10) (C := RX1) (T := TX1) (N := 13) hx hb hts hinX1 hown hK hP 0 rfl rfl 10 (by decide) (hts (.fieldLink RX1 28 "SlicedCipherModel" "block" "[I") (by decide +kernel)) (fun _ h9 => h9) rfl dX1_xor_8 ?_
          refine lv_iload_n hx hb dX1_xor_11 rfl (lv_at hl 2 rfl) ?_
          refine lv_aload_n hx hb dX1_xor_12 rfl (lv_at hl 0 rfl) ?_
          refine va_get (D := D) (ci := 1) (v := .ref a10) (C := RX1) (T := TX1) (N := 13) hx hb hts hinX1 hown hK hP 0 rfl rfl 10 (by decide) (hts (.fieldLink RX1 28 "SlicedCipherModel" "block" "[I") (by decide +kernel)) (fun _ h9 => h9) rfl dX1_xor_13 ?_
          refine lv_iload_n hx hb dX1_xor_16 rfl (lv_at hl 2 rfl) ?_
          refine wk_iald hx hb hK hP 2 0 rfl rfl (k := j) (by omega) (by decide) dX1_xor_17 ?_
          refine lv_aload_n hx hb dX1_xor_18 rfl (lv_at hl 0 rfl) ?_
          refine va_get (D := D) (ci := 1) (v := .ref a5) (C := RX1) (T := TX1) (N := 13) hx hb hts hinX1 hown hK hP 0 rfl rfl 5 (by decide) (hts (.fieldLink RX1 16 "SlicedCipherModel" "rounds" "[I") (by decide +kernel)) (fun _ h9 => h9) rfl dX1_xor_19 ?_
          refine lv_iconst (v := nI 4) hx hb dX1_xor_22 (by decide) ?_
          refine lv_iload_n hx hb dX1_xor_23 rfl (lv_at hl 1 rfl) ?_
          refine wk_imulN hx hb (a := 4) (b := r) dX1_xor_24 ?_
          refine lv_iload_n hx hb dX1_xor_25 rfl (lv_at hl 2 rfl) ?_
          refine wk_iaddN hx hb (a := 4 * r) (b := j) dX1_xor_26 ?_
          refine wk_iald hx hb hK hP 1 0 rfl rfl (k := (4 * r) + j) (by omega) (by decide) dX1_xor_27 ?_
          refine lv_ixor hx hb dX1_xor_28 ?_
          refine wk_iast hx hb hK hP hD hS 2 0 rfl rfl (k := j) (x := ((mX b Rn r j) j) ^^^ (Rn ((4 * r) + j))) (by omega) (by decide) dX1_xor_29 (fun H locs hP hD hS => ?_)
          have hP : va_P D vwCl [(h0, .inr (1, [.int th, .ref a1, .int by0, .int rd, .ref a4, .ref a5, .ref a6, .ref a7, .int zz, .ref a9, .ref a10, .ref a11, .ref a12])), (a5, .inl (cI, 132, .inl Rn)), (a10, .inl (cI, 4, .inl (upd (mX b Rn r j) j (((mX b Rn r j) j) ^^^ (Rn ((4 * r) + j))))))] H := hP
          have hD : va_D A [(h0, .inr (1, [.int th, .ref a1, .int by0, .int rd, .ref a4, .ref a5, .ref a6, .ref a7, .int zz, .ref a9, .ref a10, .ref a11, .ref a12])), (a5, .inl (cI, 132, .inl Rn)), (a10, .inl (cI, 4, .inl (upd (mX b Rn r j) j (((mX b Rn r j) j) ^^^ (Rn ((4 * r) + j))))))] := hD
          refine lv_iinc (v := nI (j + 1)) (lv' := [(2, .int (nI (j + 1))), (0, .ref h0), (1, .int (nI r))]) hx hb dX1_xor_30 hl (k := 2) rfl (wk_inc j (by decide)) (by decide) rfl (fun ls hl => ?_)
          refine lv_goto (tgt := 2) hx hb dX1_xor_33 (by decide) ?_
          exact ih (j + 1) (by omega) (by omega) _ _ hP hD hS ls (lv_sub hl [1, 2, 0] rfl)
  refine lv_iconst (v := nI 0) hx hb dX1_xor_0 (by decide) ?_
  refine lv_istore_n (lv' := [(2, .int (nI 0)), (0, .ref h0), (1, .int (nI r))]) hx hb dX1_xor_1 rfl hl (by decide) rfl (fun ls hl => ?_)
  exact lp 5 0 (by omega) (by omega) _ _ hP hD hS ls (lv_sub hl [1, 2, 0] rfl)
set_option maxRecDepth 100000 in
theorem in_X1_load : ∀ w ∈ wsX10, w ∈ wsX1_load := by decide +kernel
set_option maxHeartbeats 4000000 in
set_option maxRecDepth 100000 in
theorem c_X1_load (l : Launch) (D : va_G) (cI : ClassId) (sz : Nat) (h0 a1 a4 a5 a6 a7 a9 a10 a11 a12 : Nat) (th by0 rd zz : Int32) (at0 : Nat) (f b : Nat → Int32) (h1 : at0 + 4 ≤ 256) : Met l yX1_load wsX1_load ({ frames := 0, cells := 0, slots := 0, locals := 0 }) (va_Pc [.ref h0, .int (nI at0)] (fun U => PW D [(cI, .int)] [(h0, .inr (1, [.int th, .ref a1, .int by0, .int rd, .ref a4, .ref a5, .ref a6, .ref a7, .int zz, .ref a9, .ref a10, .ref a11, .ref a12])), (a7, .inl (cI, 256, .inl f)), (a10, .inl (cI, 4, .inl b))] sz U ∧ True)) (va_Qv (fun _ : Unit => True) (fun _ => BW D [(cI, .int)] (va_A [(h0, .inr (1, [.int th, .ref a1, .int by0, .int rd, .ref a4, .ref a5, .ref a6, .ref a7, .int zz, .ref a9, .ref a10, .ref a11, .ref a12])), (a7, .inl (cI, 256, .inl f)), (a10, .inl (cI, 4, .inl b))] sz) [(h0, .inr (1, [.int th, .ref a1, .int by0, .int rd, .ref a4, .ref a5, .ref a6, .ref a7, .int zz, .ref a9, .ref a10, .ref a11, .ref a12])), (a7, .inl (cI, 256, .inl f)), (a10, .inl (cI, 4, .inl (st4 b 0 (ld4 f at0))))]) (va_A [(h0, .inr (1, [.int th, .ref a1, .int by0, .int rd, .ref a4, .ref a5, .ref a6, .ref a7, .int zz, .ref a9, .ref a10, .ref a11, .ref a12])), (a7, .inl (cI, 256, .inl f)), (a10, .inl (cI, 4, .inl b))] sz)) 0 0 (va_A [(h0, .inr (1, [.int th, .ref a1, .int by0, .int rd, .ref a4, .ref a5, .ref a6, .ref a7, .int zz, .ref a9, .ref a10, .ref a11, .ref a12])), (a7, .inl (cI, 256, .inl f)), (a10, .inl (cI, 4, .inl b))] sz) := by
  refine Met.ofW (cc := cX1_load) (maxL := 3) (ret := none) (by decide) rfl ?_
  intro p e s m args below meth c s₁ B hml hv
  obtain ⟨rfl, ⟨hsz, hP, hK, hD0⟩, -⟩ := hv
  have hx := B.exec
  have hb := B.bytes
  have hr := B.returns
  have hts := atoms_spec (ws := wsX1_load) B.pre
  have hown : s.vm.findClass RX1 = some m.cls := findClass_of_methodNamed B.named
  have hlocks := B.notSynchronized
  subst hsz
  have hD := hD0.self (sz := s.heap.size)
  have hinX1 := in_X1_load
  generalize hAe : va_A [(h0, .inr (1, [.int th, .ref a1, .int by0, .int rd, .ref a4, .ref a5, .ref a6, .ref a7, .int zz, .ref a9, .ref a10, .ref a11, .ref a12])), (a7, .inl (cI, 256, .inl f)), (a10, .inl (cI, 4, .inl b))] s.heap.size = A at hD ⊢
  have hA : ∀ q : Nat, s.heap.size ≤ q → A q := fun q h => by rw [← hAe]; exact Or.inr h
  have hS : va_S A s.heap s.heap [] := va_S.rf
  have hl := lv_entry ([.ref h0, .int (nI at0)]) (n := 3) (Nat.le_of_ble_eq_true rfl)
  rw [lg_entry_eq]
  generalize (lg_sl ([.ref h0, .int (nI at0)]) ++ List.replicate (3 - (lg_sl ([.ref h0, .int (nI at0)])).length) Slot.unset).toArray = ls at hl ⊢
  have hl : lv_has ls 3 [(0, .ref h0), (1, .int (nI at0))] := hl
  have lp : ∀ (fu : Nat) (j : Nat), j ≤ 4 → 4 + 1 ≤ j + fu → ∀ (H : Heap) (locs : List Loc), va_P D vwCl [(h0, .inr (1, [.int th, .ref a1, .int by0, .int rd, .ref a4, .ref a5, .ref a6, .ref a7, .int zz, .ref a9, .ref a10, .ref a11, .ref a12])), (a7, .inl (cI, 256, .inl f)), (a10, .inl (cI, 4, .inl (cpI b f at0 j)))] H → va_D A [(h0, .inr (1, [.int th, .ref a1, .int by0, .int rd, .ref a4, .ref a5, .ref a6, .ref a7, .int zz, .ref a9, .ref a10, .ref a11, .ref a12])), (a7, .inl (cI, 256, .inl f)), (a10, .inl (cI, 4, .inl (cpI b f at0 j)))] → va_S A s.heap H locs → ∀ (ls : Array Slot), lv_has ls 3 [(0, .ref h0), (1, .int (nI at0)), (2, .int (nI j))] → W p l e ((headSpec wsX1_load ({ frames := 0, cells := 0, slots := 0, locals := 0 })).room) s m ([.ref h0, .int (nI at0)] : List Value).toArray below meth c H locs 0 0 (MQ below (va_Qv (fun _ : Unit => True) (fun _ => BW D [(cI, .int)] A [(h0, .inr (1, [.int th, .ref a1, .int by0, .int rd, .ref a4, .ref a5, .ref a6, .ref a7, .int zz, .ref a9, .ref a10, .ref a11, .ref a12])), (a7, .inl (cI, 256, .inl f)), (a10, .inl (cI, 4, .inl (st4 b 0 (ld4 f at0))))]) A) ([.ref h0, .int (nI at0)] : List Value).toArray s 0 0 (A)) (F0 m 2 ls []) := by
    intro fu
    induction fu with
      | zero => intro j hij hfj; exact absurd hfj (by omega)
      | succ fu ih =>
        intro j hij hfj H locs hP hD hS ls hl
        refine lv_iload_n hx hb dX1_load_2 rfl (lv_at hl 2 rfl) ?_
        refine lv_iconst (v := nI 4) hx hb dX1_load_3 (by decide) ?_
        refine wk_geN (tgt := 27) hx hb (a := j) (b := 4) (by omega) (by decide) dX1_load_4 (by decide) (fun c4 => ?_) (fun c4 => ?_)
        · obtain rfl : j = 4 := by omega
          rw [cpI_4] at hP hD
          exact W.vret hx hb hr (fun t ht hW => ⟨⟨(), rfl, trivial, by rw [ht]; exact hP, va_K.moved hW.alike hK, hD⟩, hS.F ht⟩) hS.2.2 dX1_load_27
        · refine lv_aload_n hx hb dX1_load_7 rfl (lv_at hl 0 rfl) ?_
          refine va_get (D := D) (ci := 1) (v := .ref a10) (C := RX1) (T := TX1) (N := 13) hx hb hts hinX1 hown hK hP 0 rfl rfl 10 (by decide) (hts (.fieldLink RX1 28 "SlicedCipherModel" "block" "[I") (by decide +kernel)) (fun _ h9 => h9) rfl dX1_load_8 ?_
          refine lv_iload_n hx hb dX1_load_11 rfl (lv_at hl 2 rfl) ?_
          refine lv_aload_n hx hb dX1_load_12 rfl (lv_at hl 0 rfl) ?_
          refine va_get (D := D) (ci := 1) (v := .ref a7) (C := RX1) (T := TX1) (N := 13) hx hb hts hinX1 hown hK hP 0 rfl rfl 7 (by decide) (hts (.fieldLink RX1 22 "SlicedCipherModel" "tape" "[I") (by decide +kernel)) (fun _ h9 => h9) rfl dX1_load_13 ?_
          refine lv_iload_n hx hb dX1_load_16 rfl (lv_at hl 1 rfl) ?_
          refine lv_iload_n hx hb dX1_load_17 rfl (lv_at hl 2 rfl) ?_
          refine wk_iaddN hx hb (a := at0) (b := j) dX1_load_18 ?_
          refine wk_iald hx hb hK hP 1 0 rfl rfl (k := at0 + j) (by omega) (by decide) dX1_load_19 ?_
          refine wk_iast hx hb hK hP hD hS 2 0 rfl rfl (k := j) (x := f (at0 + j)) (by omega) (by decide) dX1_load_20 (fun H locs hP hD hS => ?_)
          have hP : va_P D vwCl [(h0, .inr (1, [.int th, .ref a1, .int by0, .int rd, .ref a4, .ref a5, .ref a6, .ref a7, .int zz, .ref a9, .ref a10, .ref a11, .ref a12])), (a7, .inl (cI, 256, .inl f)), (a10, .inl (cI, 4, .inl (upd (cpI b f at0 j) j (f (at0 + j)))))] H := hP
          have hD : va_D A [(h0, .inr (1, [.int th, .ref a1, .int by0, .int rd, .ref a4, .ref a5, .ref a6, .ref a7, .int zz, .ref a9, .ref a10, .ref a11, .ref a12])), (a7, .inl (cI, 256, .inl f)), (a10, .inl (cI, 4, .inl (upd (cpI b f at0 j) j (f (at0 + j)))))] := hD
          refine lv_iinc (v := nI (j + 1)) (lv' := [(2, .int (nI (j + 1))), (0, .ref h0), (1, .int (nI at0))]) hx hb dX1_load_21 hl (k := 2) rfl (wk_inc j (by decide)) (by decide) rfl (fun ls hl => ?_)
          refine lv_goto (tgt := 2) hx hb dX1_load_24 (by decide) ?_
          exact ih (j + 1) (by omega) (by omega) _ _ hP hD hS ls (lv_sub hl [1, 2, 0] rfl)
  refine lv_iconst (v := nI 0) hx hb dX1_load_0 (by decide) ?_
  refine lv_istore_n (lv' := [(2, .int (nI 0)), (0, .ref h0), (1, .int (nI at0))]) hx hb dX1_load_1 rfl hl (by decide) rfl (fun ls hl => ?_)
  exact lp 5 0 (by omega) (by omega) _ _ hP hD hS ls (lv_sub hl [1, 2, 0] rfl)
set_option maxRecDepth 100000 in
theorem in_X1_mix : ∀ w ∈ wsX10, w ∈ wsX1_mix := by decide +kernel
set_option maxHeartbeats 4000000 in
set_option maxRecDepth 100000 in
theorem c_X1_mix (l : Launch) (D : va_G) (cI : ClassId) (sz : Nat) (h0 a1 a4 a5 a6 a7 a9 a10 a11 a12 : Nat) (th by0 rd zz : Int32) (b : Nat → Int32) : Met l yX1_mix wsX1_mix ({ frames := 2, cells := 0, slots := 0, locals := 44 }) (va_Pc [.ref h0] (fun U => PW D [(cI, .int)] [(h0, .inr (1, [.int th, .ref a1, .int by0, .int rd, .ref a4, .ref a5, .ref a6, .ref a7, .int zz, .ref a9, .ref a10, .ref a11, .ref a12])), (a10, .inl (cI, 4, .inl b))] sz U ∧ True)) (va_Qv (fun _ : Unit => True) (fun _ => BW D [(cI, .int)] (va_A [(h0, .inr (1, [.int th, .ref a1, .int by0, .int rd, .ref a4, .ref a5, .ref a6, .ref a7, .int zz, .ref a9, .ref a10, .ref a11, .ref a12])), (a10, .inl (cI, 4, .inl b))] sz) [(h0, .inr (1, [.int th, .ref a1, .int by0, .int rd, .ref a4, .ref a5, .ref a6, .ref a7, .int zz, .ref a9, .ref a10, .ref a11, .ref a12])), (a10, .inl (cI, 4, .inl (st4 b 0 (cMix (ld4 b 0)))))]) (va_A [(h0, .inr (1, [.int th, .ref a1, .int by0, .int rd, .ref a4, .ref a5, .ref a6, .ref a7, .int zz, .ref a9, .ref a10, .ref a11, .ref a12])), (a10, .inl (cI, 4, .inl b))] sz)) 0 0 (va_A [(h0, .inr (1, [.int th, .ref a1, .int by0, .int rd, .ref a4, .ref a5, .ref a6, .ref a7, .int zz, .ref a9, .ref a10, .ref a11, .ref a12])), (a10, .inl (cI, 4, .inl b))] sz) := by
  refine Met.ofW (cc := cX1_mix) (maxL := 1) (ret := none) (by decide) rfl ?_
  intro p e s m args below meth c s₁ B hml hv
  obtain ⟨rfl, ⟨hsz, hP, hK, hD0⟩, -⟩ := hv
  have hx := B.exec
  have hb := B.bytes
  have hr := B.returns
  have hts := atoms_spec (ws := wsX1_mix) B.pre
  have hown : s.vm.findClass RX1 = some m.cls := findClass_of_methodNamed B.named
  have hlocks := B.notSynchronized
  subst hsz
  have hD := hD0.self (sz := s.heap.size)
  have hinX1 := in_X1_mix
  generalize hAe : va_A [(h0, .inr (1, [.int th, .ref a1, .int by0, .int rd, .ref a4, .ref a5, .ref a6, .ref a7, .int zz, .ref a9, .ref a10, .ref a11, .ref a12])), (a10, .inl (cI, 4, .inl b))] s.heap.size = A at hD ⊢
  have hA : ∀ q : Nat, s.heap.size ≤ q → A q := fun q h => by rw [← hAe]; exact Or.inr h
  have hS : va_S A s.heap s.heap [] := va_S.rf
  have hl := lv_entry ([.ref h0]) (n := 1) (Nat.le_of_ble_eq_true rfl)
  rw [lg_entry_eq]
  generalize (lg_sl ([.ref h0]) ++ List.replicate (1 - (lg_sl ([.ref h0])).length) Slot.unset).toArray = ls at hl ⊢
  have hl : lv_has ls 1 [(0, .ref h0)] := hl
  have hP : va_P D vwCl [(h0, .inr (1, [.int th, .ref a1, .int by0, .int rd, .ref a4, .ref a5, .ref a6, .ref a7, .int zz, .ref a9, .ref a10, .ref a11, .ref a12])), (a10, .inl (cI, 4, .inl (st4 b 0 (b 0, b 1, b 2, b 3))))] s.heap := by rw [show st4 b 0 (b 0, b 1, b 2, b 3) = b from st4_ld4 b 0]; exact hP
  have hD : va_D A [(h0, .inr (1, [.int th, .ref a1, .int by0, .int rd, .ref a4, .ref a5, .ref a6, .ref a7, .int zz, .ref a9, .ref a10, .ref a11, .ref a12])), (a10, .inl (cI, 4, .inl (st4 b 0 (b 0, b 1, b 2, b 3))))] := by rw [show st4 b 0 (b 0, b 1, b 2, b 3) = b from st4_ld4 b 0]; exact hD
  refine lv_aload_n hx hb dX1_mix_0 rfl (lv_at hl 0 rfl) ?_
  refine va_get (D := D) (ci := 1) (v := .ref a10) (C := RX1) (T := TX1) (N := 13) hx hb hts hinX1 hown hK hP 0 rfl rfl 10 (by decide) (hts (.fieldLink RX1 28 "SlicedCipherModel" "block" "[I") (by decide +kernel)) (fun _ h9 => h9) rfl dX1_mix_1 ?_
  refine lv_iconst (v := nI 0) hx hb dX1_mix_4 (by decide) ?_
  refine lv_aload_n hx hb dX1_mix_5 rfl (lv_at hl 0 rfl) ?_
  refine va_get (D := D) (ci := 1) (v := .ref a10) (C := RX1) (T := TX1) (N := 13) hx hb hts hinX1 hown hK hP 0 rfl rfl 10 (by decide) (hts (.fieldLink RX1 28 "SlicedCipherModel" "block" "[I") (by decide +kernel)) (fun _ h9 => h9) rfl dX1_mix_6 ?_
  refine lv_iconst (v := nI 0) hx hb dX1_mix_9 (by decide) ?_
  refine wk_iald hx hb hK hP 1 0 rfl rfl (k := 0) (by decide) (by decide) dX1_mix_10 ?_
  refine wk_i (y := b 0) rfl ?_
  refine lv_bipush (v := nI 13) hx hb dX1_mix_11 (by decide) ?_
  refine wk_Sp (v := rotL (b 0) (nI 13)) (As := [.int (b 0), .int (nI 13)]) (rest := [.int (nI 0), .ref a10]) ⟨hx, hb, hml, hown, hts⟩ (c_X1_left l (b 0) 13 (by decide) (by decide)) (va_cwS 2 hts gX1_mix_X1_left rfl rfl rfl (by decide +kernel) ⟨Nat.le_of_ble_eq_true rfl, Nat.le_of_ble_eq_true rfl⟩) rfl hl.1 rfl (Nat.le_of_ble_eq_true rfl) dX1_mix_13 ⟨Nat.zero_le _, Nat.zero_le _⟩ ?_
  refine lv_topi (fun v1 ev1 => ?_)
  refine wk_iast hx hb hK hP hD hS 1 0 rfl rfl (k := 0) (x := v1) (by decide) (by decide) dX1_mix_16 (fun H locs hP hD hS => ?_)
  simp only [List.set, up_0] at hP hD
  have hP : va_P D vwCl [(h0, .inr (1, [.int th, .ref a1, .int by0, .int rd, .ref a4, .ref a5, .ref a6, .ref a7, .int zz, .ref a9, .ref a10, .ref a11, .ref a12])), (a10, .inl (cI, 4, .inl (st4 b 0 (v1, b 1, b 2, b 3))))] H := hP
  have hD : va_D A [(h0, .inr (1, [.int th, .ref a1, .int by0, .int rd, .ref a4, .ref a5, .ref a6, .ref a7, .int zz, .ref a9, .ref a10, .ref a11, .ref a12])), (a10, .inl (cI, 4, .inl (st4 b 0 (v1, b 1, b 2, b 3))))] := hD
  refine lv_aload_n hx hb dX1_mix_17 rfl (lv_at hl 0 rfl) ?_
  refine va_get (D := D) (ci := 1) (v := .ref a10) (C := RX1) (T := TX1) (N := 13) hx hb hts hinX1 hown hK hP 0 rfl rfl 10 (by decide) (hts (.fieldLink RX1 28 "SlicedCipherModel" "block" "[I") (by decide +kernel)) (fun _ h9 => h9) rfl dX1_mix_18 ?_
  refine lv_iconst (v := nI 2) hx hb dX1_mix_21 (by decide) ?_
  refine lv_aload_n hx hb dX1_mix_22 rfl (lv_at hl 0 rfl) ?_
  refine va_get (D := D) (ci := 1) (v := .ref a10) (C := RX1) (T := TX1) (N := 13) hx hb hts hinX1 hown hK hP 0 rfl rfl 10 (by decide) (hts (.fieldLink RX1 28 "SlicedCipherModel" "block" "[I") (by decide +kernel)) (fun _ h9 => h9) rfl dX1_mix_23 ?_
  refine lv_iconst (v := nI 2) hx hb dX1_mix_26 (by decide) ?_
  refine wk_iald hx hb hK hP 1 0 rfl rfl (k := 2) (by decide) (by decide) dX1_mix_27 ?_
  refine wk_i (y := b 2) rfl ?_
  refine lv_iconst (v := nI 3) hx hb dX1_mix_28 (by decide) ?_
  refine wk_Sp (v := rotL (b 2) (nI 3)) (As := [.int (b 2), .int (nI 3)]) (rest := [.int (nI 2), .ref a10]) ⟨hx, hb, hml, hown, hts⟩ (c_X1_left l (b 2) 3 (by decide) (by decide)) (va_cwS 2 hts gX1_mix_X1_left rfl rfl rfl (by decide +kernel) ⟨Nat.le_of_ble_eq_true rfl, Nat.le_of_ble_eq_true rfl⟩) rfl hl.1 rfl (Nat.le_of_ble_eq_true rfl) dX1_mix_29 ⟨Nat.zero_le _, Nat.zero_le _⟩ ?_
  refine lv_topi (fun v2 ev2 => ?_)
  refine wk_iast hx hb hK hP hD hS 1 0 rfl rfl (k := 2) (x := v2) (by decide) (by decide) dX1_mix_32 (fun H locs hP hD hS => ?_)
  simp only [List.set, up_2] at hP hD
  have hP : va_P D vwCl [(h0, .inr (1, [.int th, .ref a1, .int by0, .int rd, .ref a4, .ref a5, .ref a6, .ref a7, .int zz, .ref a9, .ref a10, .ref a11, .ref a12])), (a10, .inl (cI, 4, .inl (st4 b 0 (v1, b 1, v2, b 3))))] H := hP
  have hD : va_D A [(h0, .inr (1, [.int th, .ref a1, .int by0, .int rd, .ref a4, .ref a5, .ref a6, .ref a7, .int zz, .ref a9, .ref a10, .ref a11, .ref a12])), (a10, .inl (cI, 4, .inl (st4 b 0 (v1, b 1, v2, b 3))))] := hD
  refine lv_aload_n hx hb dX1_mix_33 rfl (lv_at hl 0 rfl) ?_
  refine va_get (D := D) (ci := 1) (v := .ref a10) (C := RX1) (T := TX1) (N := 13) hx hb hts hinX1 hown hK hP 0 rfl rfl 10 (by decide) (hts (.fieldLink RX1 28 "SlicedCipherModel" "block" "[I") (by decide +kernel)) (fun _ h9 => h9) rfl dX1_mix_34 ?_
  refine lv_iconst (v := nI 1) hx hb dX1_mix_37 (by decide) ?_
  refine lv_aload_n hx hb dX1_mix_38 rfl (lv_at hl 0 rfl) ?_
  refine va_get (D := D) (ci := 1) (v := .ref a10) (C := RX1) (T := TX1) (N := 13) hx hb hts hinX1 hown hK hP 0 rfl rfl 10 (by decide) (hts (.fieldLink RX1 28 "SlicedCipherModel" "block" "[I") (by decide +kernel)) (fun _ h9 => h9) rfl dX1_mix_39 ?_
  refine lv_iconst (v := nI 1) hx hb dX1_mix_42 (by decide) ?_
  refine wk_iald hx hb hK hP 1 0 rfl rfl (k := 1) (by decide) (by decide) dX1_mix_43 ?_
  refine wk_i (y := b 1) rfl ?_
  refine lv_aload_n hx hb dX1_mix_44 rfl (lv_at hl 0 rfl) ?_
  refine va_get (D := D) (ci := 1) (v := .ref a10) (C := RX1) (T := TX1) (N := 13) hx hb hts hinX1 hown hK hP 0 rfl rfl 10 (by decide) (hts (.fieldLink RX1 28 "SlicedCipherModel" "block" "[I") (by decide +kernel)) (fun _ h9 => h9) rfl dX1_mix_45 ?_
  refine lv_iconst (v := nI 0) hx hb dX1_mix_48 (by decide) ?_
  refine wk_iald hx hb hK hP 1 0 rfl rfl (k := 0) (by decide) (by decide) dX1_mix_49 ?_
  refine wk_i (y := v1) rfl ?_
  refine lv_ixor hx hb dX1_mix_50 ?_
  refine lv_aload_n hx hb dX1_mix_51 rfl (lv_at hl 0 rfl) ?_
  refine va_get (D := D) (ci := 1) (v := .ref a10) (C := RX1) (T := TX1) (N := 13) hx hb hts hinX1 hown hK hP 0 rfl rfl 10 (by decide) (hts (.fieldLink RX1 28 "SlicedCipherModel" "block" "[I") (by decide +kernel)) (fun _ h9 => h9) rfl dX1_mix_52 ?_
  refine lv_iconst (v := nI 2) hx hb dX1_mix_55 (by decide) ?_
  refine wk_iald hx hb hK hP 1 0 rfl rfl (k := 2) (by decide) (by decide) dX1_mix_56 ?_
  refine wk_i (y := v2) rfl ?_
  refine lv_ixor hx hb dX1_mix_57 ?_
  refine lv_topi (fun v3 ev3 => ?_)
  refine wk_iast hx hb hK hP hD hS 1 0 rfl rfl (k := 1) (x := v3) (by decide) (by decide) dX1_mix_58 (fun H locs hP hD hS => ?_)
  simp only [List.set, up_1] at hP hD
  have hP : va_P D vwCl [(h0, .inr (1, [.int th, .ref a1, .int by0, .int rd, .ref a4, .ref a5, .ref a6, .ref a7, .int zz, .ref a9, .ref a10, .ref a11, .ref a12])), (a10, .inl (cI, 4, .inl (st4 b 0 (v1, v3, v2, b 3))))] H := hP
  have hD : va_D A [(h0, .inr (1, [.int th, .ref a1, .int by0, .int rd, .ref a4, .ref a5, .ref a6, .ref a7, .int zz, .ref a9, .ref a10, .ref a11, .ref a12])), (a10, .inl (cI, 4, .inl (st4 b 0 (v1, v3, v2, b 3))))] := hD
  refine lv_aload_n hx hb dX1_mix_59 rfl (lv_at hl 0 rfl) ?_
  refine va_get (D := D) (ci := 1) (v := .ref a10) (C := RX1) (T := TX1) (N := 13) hx hb hts hinX1 hown hK hP 0 rfl rfl 10 (by decide) (hts (.fieldLink RX1 28 "SlicedCipherModel" "block" "[I") (by decide +kernel)) (fun _ h9 => h9) rfl dX1_mix_60 ?_
  refine lv_iconst (v := nI 3) hx hb dX1_mix_63 (by decide) ?_
  refine lv_aload_n hx hb dX1_mix_64 rfl (lv_at hl 0 rfl) ?_
  refine va_get (D := D) (ci := 1) (v := .ref a10) (C := RX1) (T := TX1) (N := 13) hx hb hts hinX1 hown hK hP 0 rfl rfl 10 (by decide) (hts (.fieldLink RX1 28 "SlicedCipherModel" "block" "[I") (by decide +kernel)) (fun _ h9 => h9) rfl dX1_mix_65 ?_
  refine lv_iconst (v := nI 3) hx hb dX1_mix_68 (by decide) ?_
  refine wk_iald hx hb hK hP 1 0 rfl rfl (k := 3) (by decide) (by decide) dX1_mix_69 ?_
  refine wk_i (y := b 3) rfl ?_
  refine lv_aload_n hx hb dX1_mix_70 rfl (lv_at hl 0 rfl) ?_
  refine va_get (D := D) (ci := 1) (v := .ref a10) (C := RX1) (T := TX1) (N := 13) hx hb hts hinX1 hown hK hP 0 rfl rfl 10 (by decide) (hts (.fieldLink RX1 28 "SlicedCipherModel" "block" "[I") (by decide +kernel)) (fun _ h9 => h9) rfl dX1_mix_71 ?_
  refine lv_iconst (v := nI 2) hx hb dX1_mix_74 (by decide) ?_
  refine wk_iald hx hb hK hP 1 0 rfl rfl (k := 2) (by decide) (by decide) dX1_mix_75 ?_
  refine wk_i (y := v2) rfl ?_
  refine lv_ixor hx hb dX1_mix_76 ?_
  refine lv_aload_n hx hb dX1_mix_77 rfl (lv_at hl 0 rfl) ?_
  refine va_get (D := D) (ci := 1) (v := .ref a10) (C := RX1) (T := TX1) (N := 13) hx hb hts hinX1 hown hK hP 0 rfl rfl 10 (by decide) (hts (.fieldLink RX1 28 "SlicedCipherModel" "block" "[I") (by decide +kernel)) (fun _ h9 => h9) rfl dX1_mix_78 ?_
  refine lv_iconst (v := nI 0) hx hb dX1_mix_81 (by decide) ?_
  refine wk_iald hx hb hK hP 1 0 rfl rfl (k := 0) (by decide) (by decide) dX1_mix_82 ?_
  refine wk_i (y := v1) rfl ?_
  refine lv_bipush (v := nI 8) hx hb dX1_mix_83 (by decide) ?_
  refine lv_imul hx hb dX1_mix_85 ?_
  refine wk_i (y := v1 <<< (nI 3 &&& 31)) (mul8 _) ?_
  refine lv_ixor hx hb dX1_mix_86 ?_
  refine lv_topi (fun v4 ev4 => ?_)
  refine wk_iast hx hb hK hP hD hS 1 0 rfl rfl (k := 3) (x := v4) (by decide) (by decide) dX1_mix_87 (fun H locs hP hD hS => ?_)
  simp only [List.set, up_3] at hP hD
  have hP : va_P D vwCl [(h0, .inr (1, [.int th, .ref a1, .int by0, .int rd, .ref a4, .ref a5, .ref a6, .ref a7, .int zz, .ref a9, .ref a10, .ref a11, .ref a12])), (a10, .inl (cI, 4, .inl (st4 b 0 (v1, v3, v2, v4))))] H := hP
  have hD : va_D A [(h0, .inr (1, [.int th, .ref a1, .int by0, .int rd, .ref a4, .ref a5, .ref a6, .ref a7, .int zz, .ref a9, .ref a10, .ref a11, .ref a12])), (a10, .inl (cI, 4, .inl (st4 b 0 (v1, v3, v2, v4))))] := hD
  refine lv_aload_n hx hb dX1_mix_88 rfl (lv_at hl 0 rfl) ?_
  refine va_get (D := D) (ci := 1) (v := .ref a10) (C := RX1) (T := TX1) (N := 13) hx hb hts hinX1 hown hK hP 0 rfl rfl 10 (by decide) (hts (.fieldLink RX1 28 "SlicedCipherModel" "block" "[I") (by decide +kernel)) (fun _ h9 => h9) rfl dX1_mix_89 ?_
  refine lv_iconst (v := nI 1) hx hb dX1_mix_92 (by decide) ?_
  refine lv_aload_n hx hb dX1_mix_93 rfl (lv_at hl 0 rfl) ?_
  refine va_get (D := D) (ci := 1) (v := .ref a10) (C := RX1) (T := TX1) (N := 13) hx hb hts hinX1 hown hK hP 0 rfl rfl 10 (by decide) (hts (.fieldLink RX1 28 "SlicedCipherModel" "block" "[I") (by decide +kernel)) (fun _ h9 => h9) rfl dX1_mix_94 ?_
  refine lv_iconst (v := nI 1) hx hb dX1_mix_97 (by decide) ?_
  refine wk_iald hx hb hK hP 1 0 rfl rfl (k := 1) (by decide) (by decide) dX1_mix_98 ?_
  refine wk_i (y := v3) rfl ?_
  refine lv_iconst (v := nI 1) hx hb dX1_mix_99 (by decide) ?_
  refine wk_Sp (v := rotL v3 (nI 1)) (As := [.int v3, .int (nI 1)]) (rest := [.int (nI 1), .ref a10]) ⟨hx, hb, hml, hown, hts⟩ (c_X1_left l v3 1 (by decide) (by decide)) (va_cwS 2 hts gX1_mix_X1_left rfl rfl rfl (by decide +kernel) ⟨Nat.le_of_ble_eq_true rfl, Nat.le_of_ble_eq_true rfl⟩) rfl hl.1 rfl (Nat.le_of_ble_eq_true rfl) dX1_mix_100 ⟨Nat.zero_le _, Nat.zero_le _⟩ ?_
  refine lv_topi (fun v5 ev5 => ?_)
  refine wk_iast hx hb hK hP hD hS 1 0 rfl rfl (k := 1) (x := v5) (by decide) (by decide) dX1_mix_103 (fun H locs hP hD hS => ?_)
  simp only [List.set, up_1] at hP hD
  have hP : va_P D vwCl [(h0, .inr (1, [.int th, .ref a1, .int by0, .int rd, .ref a4, .ref a5, .ref a6, .ref a7, .int zz, .ref a9, .ref a10, .ref a11, .ref a12])), (a10, .inl (cI, 4, .inl (st4 b 0 (v1, v5, v2, v4))))] H := hP
  have hD : va_D A [(h0, .inr (1, [.int th, .ref a1, .int by0, .int rd, .ref a4, .ref a5, .ref a6, .ref a7, .int zz, .ref a9, .ref a10, .ref a11, .ref a12])), (a10, .inl (cI, 4, .inl (st4 b 0 (v1, v5, v2, v4))))] := hD
  refine lv_aload_n hx hb dX1_mix_104 rfl (lv_at hl 0 rfl) ?_
  refine va_get (D := D) (ci := 1) (v := .ref a10) (C := RX1) (T := TX1) (N := 13) hx hb hts hinX1 hown hK hP 0 rfl rfl 10 (by decide) (hts (.fieldLink RX1 28 "SlicedCipherModel" "block" "[I") (by decide +kernel)) (fun _ h9 => h9) rfl dX1_mix_105 ?_
  refine lv_iconst (v := nI 3) hx hb dX1_mix_108 (by decide) ?_
  refine lv_aload_n hx hb dX1_mix_109 rfl (lv_at hl 0 rfl) ?_
  refine va_get (D := D) (ci := 1) (v := .ref a10) (C := RX1) (T := TX1) (N := 13) hx hb hts hinX1 hown hK hP 0 rfl rfl 10 (by decide) (hts (.fieldLink RX1 28 "SlicedCipherModel" "block" "[I") (by decide +kernel)) (fun _ h9 => h9) rfl dX1_mix_110 ?_
  refine lv_iconst (v := nI 3) hx hb dX1_mix_113 (by decide) ?_
  refine wk_iald hx hb hK hP 1 0 rfl rfl (k := 3) (by decide) (by decide) dX1_mix_114 ?_
  refine wk_i (y := v4) rfl ?_
  refine lv_bipush (v := nI 7) hx hb dX1_mix_115 (by decide) ?_
  refine wk_Sp (v := rotL v4 (nI 7)) (As := [.int v4, .int (nI 7)]) (rest := [.int (nI 3), .ref a10]) ⟨hx, hb, hml, hown, hts⟩ (c_X1_left l v4 7 (by decide) (by decide)) (va_cwS 2 hts gX1_mix_X1_left rfl rfl rfl (by decide +kernel) ⟨Nat.le_of_ble_eq_true rfl, Nat.le_of_ble_eq_true rfl⟩) rfl hl.1 rfl (Nat.le_of_ble_eq_true rfl) dX1_mix_117 ⟨Nat.zero_le _, Nat.zero_le _⟩ ?_
  refine lv_topi (fun v6 ev6 => ?_)
  refine wk_iast hx hb hK hP hD hS 1 0 rfl rfl (k := 3) (x := v6) (by decide) (by decide) dX1_mix_120 (fun H locs hP hD hS => ?_)
  simp only [List.set, up_3] at hP hD
  have hP : va_P D vwCl [(h0, .inr (1, [.int th, .ref a1, .int by0, .int rd, .ref a4, .ref a5, .ref a6, .ref a7, .int zz, .ref a9, .ref a10, .ref a11, .ref a12])), (a10, .inl (cI, 4, .inl (st4 b 0 (v1, v5, v2, v6))))] H := hP
  have hD : va_D A [(h0, .inr (1, [.int th, .ref a1, .int by0, .int rd, .ref a4, .ref a5, .ref a6, .ref a7, .int zz, .ref a9, .ref a10, .ref a11, .ref a12])), (a10, .inl (cI, 4, .inl (st4 b 0 (v1, v5, v2, v6))))] := hD
  refine lv_aload_n hx hb dX1_mix_121 rfl (lv_at hl 0 rfl) ?_
  refine va_get (D := D) (ci := 1) (v := .ref a10) (C := RX1) (T := TX1) (N := 13) hx hb hts hinX1 hown hK hP 0 rfl rfl 10 (by decide) (hts (.fieldLink RX1 28 "SlicedCipherModel" "block" "[I") (by decide +kernel)) (fun _ h9 => h9) rfl dX1_mix_122 ?_
  refine lv_iconst (v := nI 0) hx hb dX1_mix_125 (by decide) ?_
  refine lv_aload_n hx hb dX1_mix_126 rfl (lv_at hl 0 rfl) ?_
  refine va_get (D := D) (ci := 1) (v := .ref a10) (C := RX1) (T := TX1) (N := 13) hx hb hts hinX1 hown hK hP 0 rfl rfl 10 (by decide) (hts (.fieldLink RX1 28 "SlicedCipherModel" "block" "[I") (by decide +kernel)) (fun _ h9 => h9) rfl dX1_mix_127 ?_
  refine lv_iconst (v := nI 0) hx hb dX1_mix_130 (by decide) ?_
  refine wk_iald hx hb hK hP 1 0 rfl rfl (k := 0) (by decide) (by decide) dX1_mix_131 ?_
  refine wk_i (y := v1) rfl ?_
  refine lv_aload_n hx hb dX1_mix_132 rfl (lv_at hl 0 rfl) ?_
  refine va_get (D := D) (ci := 1) (v := .ref a10) (C := RX1) (T := TX1) (N := 13) hx hb hts hinX1 hown hK hP 0 rfl rfl 10 (by decide) (hts (.fieldLink RX1 28 "SlicedCipherModel" "block" "[I") (by decide +kernel)) (fun _ h9 => h9) rfl dX1_mix_133 ?_
  refine lv_iconst (v := nI 1) hx hb dX1_mix_136 (by decide) ?_
  refine wk_iald hx hb hK hP 1 0 rfl rfl (k := 1) (by decide) (by decide) dX1_mix_137 ?_
  refine wk_i (y := v5) rfl ?_
  refine lv_ixor hx hb dX1_mix_138 ?_
  refine lv_aload_n hx hb dX1_mix_139 rfl (lv_at hl 0 rfl) ?_
  refine va_get (D := D) (ci := 1) (v := .ref a10) (C := RX1) (T := TX1) (N := 13) hx hb hts hinX1 hown hK hP 0 rfl rfl 10 (by decide) (hts (.fieldLink RX1 28 "SlicedCipherModel" "block" "[I") (by decide +kernel)) (fun _ h9 => h9) rfl dX1_mix_140 ?_
  refine lv_iconst (v := nI 3) hx hb dX1_mix_143 (by decide) ?_
  refine wk_iald hx hb hK hP 1 0 rfl rfl (k := 3) (by decide) (by decide) dX1_mix_144 ?_
  refine wk_i (y := v6) rfl ?_
  refine lv_ixor hx hb dX1_mix_145 ?_
  refine lv_topi (fun v7 ev7 => ?_)
  refine wk_iast hx hb hK hP hD hS 1 0 rfl rfl (k := 0) (x := v7) (by decide) (by decide) dX1_mix_146 (fun H locs hP hD hS => ?_)
  simp only [List.set, up_0] at hP hD
  have hP : va_P D vwCl [(h0, .inr (1, [.int th, .ref a1, .int by0, .int rd, .ref a4, .ref a5, .ref a6, .ref a7, .int zz, .ref a9, .ref a10, .ref a11, .ref a12])), (a10, .inl (cI, 4, .inl (st4 b 0 (v7, v5, v2, v6))))] H := hP
  have hD : va_D A [(h0, .inr (1, [.int th, .ref a1, .int by0, .int rd, .ref a4, .ref a5, .ref a6, .ref a7, .int zz, .ref a9, .ref a10, .ref a11, .ref a12])), (a10, .inl (cI, 4, .inl (st4 b 0 (v7, v5, v2, v6))))] := hD
  refine lv_aload_n hx hb dX1_mix_147 rfl (lv_at hl 0 rfl) ?_
  refine va_get (D := D) (ci := 1) (v := .ref a10) (C := RX1) (T := TX1) (N := 13) hx hb hts hinX1 hown hK hP 0 rfl rfl 10 (by decide) (hts (.fieldLink RX1 28 "SlicedCipherModel" "block" "[I") (by decide +kernel)) (fun _ h9 => h9) rfl dX1_mix_148 ?_
  refine lv_iconst (v := nI 2) hx hb dX1_mix_151 (by decide) ?_
  refine lv_aload_n hx hb dX1_mix_152 rfl (lv_at hl 0 rfl) ?_
  refine va_get (D := D) (ci := 1) (v := .ref a10) (C := RX1) (T := TX1) (N := 13) hx hb hts hinX1 hown hK hP 0 rfl rfl 10 (by decide) (hts (.fieldLink RX1 28 "SlicedCipherModel" "block" "[I") (by decide +kernel)) (fun _ h9 => h9) rfl dX1_mix_153 ?_
  refine lv_iconst (v := nI 2) hx hb dX1_mix_156 (by decide) ?_
  refine wk_iald hx hb hK hP 1 0 rfl rfl (k := 2) (by decide) (by decide) dX1_mix_157 ?_
  refine wk_i (y := v2) rfl ?_
  refine lv_aload_n hx hb dX1_mix_158 rfl (lv_at hl 0 rfl) ?_
  refine va_get (D := D) (ci := 1) (v := .ref a10) (C := RX1) (T := TX1) (N := 13) hx hb hts hinX1 hown hK hP 0 rfl rfl 10 (by decide) (hts (.fieldLink RX1 28 "SlicedCipherModel" "block" "[I") (by decide +kernel)) (fun _ h9 => h9) rfl dX1_mix_159 ?_
  refine lv_iconst (v := nI 3) hx hb dX1_mix_162 (by decide) ?_
  refine wk_iald hx hb hK hP 1 0 rfl rfl (k := 3) (by decide) (by decide) dX1_mix_163 ?_
  refine wk_i (y := v6) rfl ?_
  refine lv_ixor hx hb dX1_mix_164 ?_
  refine lv_aload_n hx hb dX1_mix_165 rfl (lv_at hl 0 rfl) ?_
  refine va_get (D := D) (ci := 1) (v := .ref a10) (C := RX1) (T := TX1) (N := 13) hx hb hts hinX1 hown hK hP 0 rfl rfl 10 (by decide) (hts (.fieldLink RX1 28 "SlicedCipherModel" "block" "[I") (by decide +kernel)) (fun _ h9 => h9) rfl dX1_mix_166 ?_
  refine lv_iconst (v := nI 1) hx hb dX1_mix_169 (by decide) ?_
  refine wk_iald hx hb hK hP 1 0 rfl rfl (k := 1) (by decide) (by decide) dX1_mix_170 ?_
  refine wk_i (y := v5) rfl ?_
  refine lv_sipush (v := nI 128) hx hb dX1_mix_171 (by decide) ?_
  refine lv_imul hx hb dX1_mix_174 ?_
  refine wk_i (y := v5 <<< (nI 7 &&& 31)) (mul128 _) ?_
  refine lv_ixor hx hb dX1_mix_175 ?_
  refine lv_topi (fun v8 ev8 => ?_)
  refine wk_iast hx hb hK hP hD hS 1 0 rfl rfl (k := 2) (x := v8) (by decide) (by decide) dX1_mix_176 (fun H locs hP hD hS => ?_)
  simp only [List.set, up_2] at hP hD
  have hP : va_P D vwCl [(h0, .inr (1, [.int th, .ref a1, .int by0, .int rd, .ref a4, .ref a5, .ref a6, .ref a7, .int zz, .ref a9, .ref a10, .ref a11, .ref a12])), (a10, .inl (cI, 4, .inl (st4 b 0 (v7, v5, v8, v6))))] H := hP
  have hD : va_D A [(h0, .inr (1, [.int th, .ref a1, .int by0, .int rd, .ref a4, .ref a5, .ref a6, .ref a7, .int zz, .ref a9, .ref a10, .ref a11, .ref a12])), (a10, .inl (cI, 4, .inl (st4 b 0 (v7, v5, v8, v6))))] := hD
  refine lv_aload_n hx hb dX1_mix_177 rfl (lv_at hl 0 rfl) ?_
  refine va_get (D := D) (ci := 1) (v := .ref a10) (C := RX1) (T := TX1) (N := 13) hx hb hts hinX1 hown hK hP 0 rfl rfl 10 (by decide) (hts (.fieldLink RX1 28 "SlicedCipherModel" "block" "[I") (by decide +kernel)) (fun _ h9 => h9) rfl dX1_mix_178 ?_
  refine lv_iconst (v := nI 0) hx hb dX1_mix_181 (by decide) ?_
  refine lv_aload_n hx hb dX1_mix_182 rfl (lv_at hl 0 rfl) ?_
  refine va_get (D := D) (ci := 1) (v := .ref a10) (C := RX1) (T := TX1) (N := 13) hx hb hts hinX1 hown hK hP 0 rfl rfl 10 (by decide) (hts (.fieldLink RX1 28 "SlicedCipherModel" "block" "[I") (by decide +kernel)) (fun _ h9 => h9) rfl dX1_mix_183 ?_
  refine lv_iconst (v := nI 0) hx hb dX1_mix_186 (by decide) ?_
  refine wk_iald hx hb hK hP 1 0 rfl rfl (k := 0) (by decide) (by decide) dX1_mix_187 ?_
  refine wk_i (y := v7) rfl ?_
  refine lv_iconst (v := nI 5) hx hb dX1_mix_188 (by decide) ?_
  refine wk_Sp (v := rotL v7 (nI 5)) (As := [.int v7, .int (nI 5)]) (rest := [.int (nI 0), .ref a10]) ⟨hx, hb, hml, hown, hts⟩ (c_X1_left l v7 5 (by decide) (by decide)) (va_cwS 2 hts gX1_mix_X1_left rfl rfl rfl (by decide +kernel) ⟨Nat.le_of_ble_eq_true rfl, Nat.le_of_ble_eq_true rfl⟩) rfl hl.1 rfl (Nat.le_of_ble_eq_true rfl) dX1_mix_189 ⟨Nat.zero_le _, Nat.zero_le _⟩ ?_
  refine lv_topi (fun v9 ev9 => ?_)
  refine wk_iast hx hb hK hP hD hS 1 0 rfl rfl (k := 0) (x := v9) (by decide) (by decide) dX1_mix_192 (fun H locs hP hD hS => ?_)
  simp only [List.set, up_0] at hP hD
  have hP : va_P D vwCl [(h0, .inr (1, [.int th, .ref a1, .int by0, .int rd, .ref a4, .ref a5, .ref a6, .ref a7, .int zz, .ref a9, .ref a10, .ref a11, .ref a12])), (a10, .inl (cI, 4, .inl (st4 b 0 (v9, v5, v8, v6))))] H := hP
  have hD : va_D A [(h0, .inr (1, [.int th, .ref a1, .int by0, .int rd, .ref a4, .ref a5, .ref a6, .ref a7, .int zz, .ref a9, .ref a10, .ref a11, .ref a12])), (a10, .inl (cI, 4, .inl (st4 b 0 (v9, v5, v8, v6))))] := hD
  refine lv_aload_n hx hb dX1_mix_193 rfl (lv_at hl 0 rfl) ?_
  refine va_get (D := D) (ci := 1) (v := .ref a10) (C := RX1) (T := TX1) (N := 13) hx hb hts hinX1 hown hK hP 0 rfl rfl 10 (by decide) (hts (.fieldLink RX1 28 "SlicedCipherModel" "block" "[I") (by decide +kernel)) (fun _ h9 => h9) rfl dX1_mix_194 ?_
  refine lv_iconst (v := nI 2) hx hb dX1_mix_197 (by decide) ?_
  refine lv_aload_n hx hb dX1_mix_198 rfl (lv_at hl 0 rfl) ?_
  refine va_get (D := D) (ci := 1) (v := .ref a10) (C := RX1) (T := TX1) (N := 13) hx hb hts hinX1 hown hK hP 0 rfl rfl 10 (by decide) (hts (.fieldLink RX1 28 "SlicedCipherModel" "block" "[I") (by decide +kernel)) (fun _ h9 => h9) rfl dX1_mix_199 ?_
  refine lv_iconst (v := nI 2) hx hb dX1_mix_202 (by decide) ?_
  refine wk_iald hx hb hK hP 1 0 rfl rfl (k := 2) (by decide) (by decide) dX1_mix_203 ?_
  refine wk_i (y := v8) rfl ?_
  refine lv_bipush (v := nI 22) hx hb dX1_mix_204 (by decide) ?_
  refine wk_Sp (v := rotL v8 (nI 22)) (As := [.int v8, .int (nI 22)]) (rest := [.int (nI 2), .ref a10]) ⟨hx, hb, hml, hown, hts⟩ (c_X1_left l v8 22 (by decide) (by decide)) (va_cwS 2 hts gX1_mix_X1_left rfl rfl rfl (by decide +kernel) ⟨Nat.le_of_ble_eq_true rfl, Nat.le_of_ble_eq_true rfl⟩) rfl hl.1 rfl (Nat.le_of_ble_eq_true rfl) dX1_mix_206 ⟨Nat.zero_le _, Nat.zero_le _⟩ ?_
  refine lv_topi (fun v10 ev10 => ?_)
  refine wk_iast hx hb hK hP hD hS 1 0 rfl rfl (k := 2) (x := v10) (by decide) (by decide) dX1_mix_209 (fun H locs hP hD hS => ?_)
  simp only [List.set, up_2] at hP hD
  have hP : va_P D vwCl [(h0, .inr (1, [.int th, .ref a1, .int by0, .int rd, .ref a4, .ref a5, .ref a6, .ref a7, .int zz, .ref a9, .ref a10, .ref a11, .ref a12])), (a10, .inl (cI, 4, .inl (st4 b 0 (v9, v5, v10, v6))))] H := hP
  have hD : va_D A [(h0, .inr (1, [.int th, .ref a1, .int by0, .int rd, .ref a4, .ref a5, .ref a6, .ref a7, .int zz, .ref a9, .ref a10, .ref a11, .ref a12])), (a10, .inl (cI, 4, .inl (st4 b 0 (v9, v5, v10, v6))))] := hD
  have e9 : ((v9, v5, v10, v6) : Qd) = cMix (ld4 b 0) := by subst ev10 ev9 ev8 ev7 ev6 ev5 ev4 ev3 ev2 ev1; rfl
  rw [e9] at hP hD
  exact W.vret hx hb hr (fun t ht hW => ⟨⟨(), rfl, trivial, by rw [ht]; exact hP, va_K.moved hW.alike hK, hD⟩, hS.F ht⟩) hS.2.2 dX1_mix_210
set_option maxRecDepth 100000 in
theorem in_X1_unmix : ∀ w ∈ wsX10, w ∈ wsX1_unmix := by decide +kernel
set_option maxHeartbeats 4000000 in
set_option maxRecDepth 100000 in
theorem c_X1_unmix (l : Launch) (D : va_G) (cI : ClassId) (sz : Nat) (h0 a1 a4 a5 a6 a7 a9 a10 a11 a12 : Nat) (th by0 rd zz : Int32) (b : Nat → Int32) : Met l yX1_unmix wsX1_unmix ({ frames := 2, cells := 0, slots := 0, locals := 44 }) (va_Pc [.ref h0] (fun U => PW D [(cI, .int)] [(h0, .inr (1, [.int th, .ref a1, .int by0, .int rd, .ref a4, .ref a5, .ref a6, .ref a7, .int zz, .ref a9, .ref a10, .ref a11, .ref a12])), (a10, .inl (cI, 4, .inl b))] sz U ∧ True)) (va_Qv (fun _ : Unit => True) (fun _ => BW D [(cI, .int)] (va_A [(h0, .inr (1, [.int th, .ref a1, .int by0, .int rd, .ref a4, .ref a5, .ref a6, .ref a7, .int zz, .ref a9, .ref a10, .ref a11, .ref a12])), (a10, .inl (cI, 4, .inl b))] sz) [(h0, .inr (1, [.int th, .ref a1, .int by0, .int rd, .ref a4, .ref a5, .ref a6, .ref a7, .int zz, .ref a9, .ref a10, .ref a11, .ref a12])), (a10, .inl (cI, 4, .inl (st4 b 0 (cUnmix (ld4 b 0)))))]) (va_A [(h0, .inr (1, [.int th, .ref a1, .int by0, .int rd, .ref a4, .ref a5, .ref a6, .ref a7, .int zz, .ref a9, .ref a10, .ref a11, .ref a12])), (a10, .inl (cI, 4, .inl b))] sz)) 0 0 (va_A [(h0, .inr (1, [.int th, .ref a1, .int by0, .int rd, .ref a4, .ref a5, .ref a6, .ref a7, .int zz, .ref a9, .ref a10, .ref a11, .ref a12])), (a10, .inl (cI, 4, .inl b))] sz) := by
  refine Met.ofW (cc := cX1_unmix) (maxL := 1) (ret := none) (by decide) rfl ?_
  intro p e s m args below meth c s₁ B hml hv
  obtain ⟨rfl, ⟨hsz, hP, hK, hD0⟩, -⟩ := hv
  have hx := B.exec
  have hb := B.bytes
  have hr := B.returns
  have hts := atoms_spec (ws := wsX1_unmix) B.pre
  have hown : s.vm.findClass RX1 = some m.cls := findClass_of_methodNamed B.named
  have hlocks := B.notSynchronized
  subst hsz
  have hD := hD0.self (sz := s.heap.size)
  have hinX1 := in_X1_unmix
  generalize hAe : va_A [(h0, .inr (1, [.int th, .ref a1, .int by0, .int rd, .ref a4, .ref a5, .ref a6, .ref a7, .int zz, .ref a9, .ref a10, .ref a11, .ref a12])), (a10, .inl (cI, 4, .inl b))] s.heap.size = A at hD ⊢
  have hA : ∀ q : Nat, s.heap.size ≤ q → A q := fun q h => by rw [← hAe]; exact Or.inr h
  have hS : va_S A s.heap s.heap [] := va_S.rf
  have hl := lv_entry ([.ref h0]) (n := 1) (Nat.le_of_ble_eq_true rfl)
  rw [lg_entry_eq]
  generalize (lg_sl ([.ref h0]) ++ List.replicate (1 - (lg_sl ([.ref h0])).length) Slot.unset).toArray = ls at hl ⊢
  have hl : lv_has ls 1 [(0, .ref h0)] := hl
  have hP : va_P D vwCl [(h0, .inr (1, [.int th, .ref a1, .int by0, .int rd, .ref a4, .ref a5, .ref a6, .ref a7, .int zz, .ref a9, .ref a10, .ref a11, .ref a12])), (a10, .inl (cI, 4, .inl (st4 b 0 (b 0, b 1, b 2, b 3))))] s.heap := by rw [show st4 b 0 (b 0, b 1, b 2, b 3) = b from st4_ld4 b 0]; exact hP
  have hD : va_D A [(h0, .inr (1, [.int th, .ref a1, .int by0, .int rd, .ref a4, .ref a5, .ref a6, .ref a7, .int zz, .ref a9, .ref a10, .ref a11, .ref a12])), (a10, .inl (cI, 4, .inl (st4 b 0 (b 0, b 1, b 2, b 3))))] := by rw [show st4 b 0 (b 0, b 1, b 2, b 3) = b from st4_ld4 b 0]; exact hD
  refine lv_aload_n hx hb dX1_unmix_0 rfl (lv_at hl 0 rfl) ?_
  refine va_get (D := D) (ci := 1) (v := .ref a10) (C := RX1) (T := TX1) (N := 13) hx hb hts hinX1 hown hK hP 0 rfl rfl 10 (by decide) (hts (.fieldLink RX1 28 "SlicedCipherModel" "block" "[I") (by decide +kernel)) (fun _ h9 => h9) rfl dX1_unmix_1 ?_
  refine lv_iconst (v := nI 2) hx hb dX1_unmix_4 (by decide) ?_
  refine lv_aload_n hx hb dX1_unmix_5 rfl (lv_at hl 0 rfl) ?_
  refine va_get (D := D) (ci := 1) (v := .ref a10) (C := RX1) (T := TX1) (N := 13) hx hb hts hinX1 hown hK hP 0 rfl rfl 10 (by decide) (hts (.fieldLink RX1 28 "SlicedCipherModel" "block" "[I") (by decide +kernel)) (fun _ h9 => h9) rfl dX1_unmix_6 ?_
  refine lv_iconst (v := nI 2) hx hb dX1_unmix_9 (by decide) ?_
  refine wk_iald hx hb hK hP 1 0 rfl rfl (k := 2) (by decide) (by decide) dX1_unmix_10 ?_
  refine wk_i (y := b 2) rfl ?_
  refine lv_bipush (v := nI 22) hx hb dX1_unmix_11 (by decide) ?_
  refine wk_Sp (v := rotR (b 2) (nI 22)) (As := [.int (b 2), .int (nI 22)]) (rest := [.int (nI 2), .ref a10]) ⟨hx, hb, hml, hown, hts⟩ (c_X1_right l (b 2) 22 (by decide) (by decide)) (va_cwS 2 hts gX1_unmix_X1_right rfl rfl rfl (by decide +kernel) ⟨Nat.le_of_ble_eq_true rfl, Nat.le_of_ble_eq_true rfl⟩) rfl hl.1 rfl (Nat.le_of_ble_eq_true rfl) dX1_unmix_13 ⟨Nat.zero_le _, Nat.zero_le _⟩ ?_
  refine lv_topi (fun v1 ev1 => ?_)
  refine wk_iast hx hb hK hP hD hS 1 0 rfl rfl (k := 2) (x := v1) (by decide) (by decide) dX1_unmix_16 (fun H locs hP hD hS => ?_)
  simp only [List.set, up_2] at hP hD
  have hP : va_P D vwCl [(h0, .inr (1, [.int th, .ref a1, .int by0, .int rd, .ref a4, .ref a5, .ref a6, .ref a7, .int zz, .ref a9, .ref a10, .ref a11, .ref a12])), (a10, .inl (cI, 4, .inl (st4 b 0 (b 0, b 1, v1, b 3))))] H := hP
  have hD : va_D A [(h0, .inr (1, [.int th, .ref a1, .int by0, .int rd, .ref a4, .ref a5, .ref a6, .ref a7, .int zz, .ref a9, .ref a10, .ref a11, .ref a12])), (a10, .inl (cI, 4, .inl (st4 b 0 (b 0, b 1, v1, b 3))))] := hD
  refine lv_aload_n hx hb dX1_unmix_17 rfl (lv_at hl 0 rfl) ?_
  refine va_get (D := D) (ci := 1) (v := .ref a10) (C := RX1) (T := TX1) (N := 13) hx hb hts hinX1 hown hK hP 0 rfl rfl 10 (by decide) (hts (.fieldLink RX1 28 "SlicedCipherModel" "block" "[I") (by decide +kernel)) (fun _ h9 => h9) rfl dX1_unmix_18 ?_
  refine lv_iconst (v := nI 0) hx hb dX1_unmix_21 (by decide) ?_
  refine lv_aload_n hx hb dX1_unmix_22 rfl (lv_at hl 0 rfl) ?_
  refine va_get (D := D) (ci := 1) (v := .ref a10) (C := RX1) (T := TX1) (N := 13) hx hb hts hinX1 hown hK hP 0 rfl rfl 10 (by decide) (hts (.fieldLink RX1 28 "SlicedCipherModel" "block" "[I") (by decide +kernel)) (fun _ h9 => h9) rfl dX1_unmix_23 ?_
  refine lv_iconst (v := nI 0) hx hb dX1_unmix_26 (by decide) ?_
  refine wk_iald hx hb hK hP 1 0 rfl rfl (k := 0) (by decide) (by decide) dX1_unmix_27 ?_
  refine wk_i (y := b 0) rfl ?_
  refine lv_iconst (v := nI 5) hx hb dX1_unmix_28 (by decide) ?_
  refine wk_Sp (v := rotR (b 0) (nI 5)) (As := [.int (b 0), .int (nI 5)]) (rest := [.int (nI 0), .ref a10]) ⟨hx, hb, hml, hown, hts⟩ (c_X1_right l (b 0) 5 (by decide) (by decide)) (va_cwS 2 hts gX1_unmix_X1_right rfl rfl rfl (by decide +kernel) ⟨Nat.le_of_ble_eq_true rfl, Nat.le_of_ble_eq_true rfl⟩) rfl hl.1 rfl (Nat.le_of_ble_eq_true rfl) dX1_unmix_29 ⟨Nat.zero_le _, Nat.zero_le _⟩ ?_
  refine lv_topi (fun v2 ev2 => ?_)
  refine wk_iast hx hb hK hP hD hS 1 0 rfl rfl (k := 0) (x := v2) (by decide) (by decide) dX1_unmix_32 (fun H locs hP hD hS => ?_)
  simp only [List.set, up_0] at hP hD
  have hP : va_P D vwCl [(h0, .inr (1, [.int th, .ref a1, .int by0, .int rd, .ref a4, .ref a5, .ref a6, .ref a7, .int zz, .ref a9, .ref a10, .ref a11, .ref a12])), (a10, .inl (cI, 4, .inl (st4 b 0 (v2, b 1, v1, b 3))))] H := hP
  have hD : va_D A [(h0, .inr (1, [.int th, .ref a1, .int by0, .int rd, .ref a4, .ref a5, .ref a6, .ref a7, .int zz, .ref a9, .ref a10, .ref a11, .ref a12])), (a10, .inl (cI, 4, .inl (st4 b 0 (v2, b 1, v1, b 3))))] := hD
  refine lv_aload_n hx hb dX1_unmix_33 rfl (lv_at hl 0 rfl) ?_
  refine va_get (D := D) (ci := 1) (v := .ref a10) (C := RX1) (T := TX1) (N := 13) hx hb hts hinX1 hown hK hP 0 rfl rfl 10 (by decide) (hts (.fieldLink RX1 28 "SlicedCipherModel" "block" "[I") (by decide +kernel)) (fun _ h9 => h9) rfl dX1_unmix_34 ?_
  refine lv_iconst (v := nI 2) hx hb dX1_unmix_37 (by decide) ?_
  refine lv_aload_n hx hb dX1_unmix_38 rfl (lv_at hl 0 rfl) ?_
  refine va_get (D := D) (ci := 1) (v := .ref a10) (C := RX1) (T := TX1) (N := 13) hx hb hts hinX1 hown hK hP 0 rfl rfl 10 (by decide) (hts (.fieldLink RX1 28 "SlicedCipherModel" "block" "[I") (by decide +kernel)) (fun _ h9 => h9) rfl dX1_unmix_39 ?_
  refine lv_iconst (v := nI 2) hx hb dX1_unmix_42 (by decide) ?_
  refine wk_iald hx hb hK hP 1 0 rfl rfl (k := 2) (by decide) (by decide) dX1_unmix_43 ?_
  refine wk_i (y := v1) rfl ?_
  refine lv_aload_n hx hb dX1_unmix_44 rfl (lv_at hl 0 rfl) ?_
  refine va_get (D := D) (ci := 1) (v := .ref a10) (C := RX1) (T := TX1) (N := 13) hx hb hts hinX1 hown hK hP 0 rfl rfl 10 (by decide) (hts (.fieldLink RX1 28 "SlicedCipherModel" "block" "[I") (by decide +kernel)) (fun _ h9 => h9) rfl dX1_unmix_45 ?_
  refine lv_iconst (v := nI 3) hx hb dX1_unmix_48 (by decide) ?_
  refine wk_iald hx hb hK hP 1 0 rfl rfl (k := 3) (by decide) (by decide) dX1_unmix_49 ?_
  refine wk_i (y := b 3) rfl ?_
  refine lv_ixor hx hb dX1_unmix_50 ?_
  refine lv_aload_n hx hb dX1_unmix_51 rfl (lv_at hl 0 rfl) ?_
  refine va_get (D := D) (ci := 1) (v := .ref a10) (C := RX1) (T := TX1) (N := 13) hx hb hts hinX1 hown hK hP 0 rfl rfl 10 (by decide) (hts (.fieldLink RX1 28 "SlicedCipherModel" "block" "[I") (by decide +kernel)) (fun _ h9 => h9) rfl dX1_unmix_52 ?_
  refine lv_iconst (v := nI 1) hx hb dX1_unmix_55 (by decide) ?_
  refine wk_iald hx hb hK hP 1 0 rfl rfl (k := 1) (by decide) (by decide) dX1_unmix_56 ?_
  refine wk_i (y := b 1) rfl ?_
  refine lv_sipush (v := nI 128) hx hb dX1_unmix_57 (by decide) ?_
  refine lv_imul hx hb dX1_unmix_60 ?_
  refine wk_i (y := (b 1) <<< (nI 7 &&& 31)) (mul128 _) ?_
  refine lv_ixor hx hb dX1_unmix_61 ?_
  refine lv_topi (fun v3 ev3 => ?_)
  refine wk_iast hx hb hK hP hD hS 1 0 rfl rfl (k := 2) (x := v3) (by decide) (by decide) dX1_unmix_62 (fun H locs hP hD hS => ?_)
  simp only [List.set, up_2] at hP hD
  have hP : va_P D vwCl [(h0, .inr (1, [.int th, .ref a1, .int by0, .int rd, .ref a4, .ref a5, .ref a6, .ref a7, .int zz, .ref a9, .ref a10, .ref a11, .ref a12])), (a10, .inl (cI, 4, .inl (st4 b 0 (v2, b 1, v3, b 3))))] H := hP
  have hD : va_D A [(h0, .inr (1, [.int th, .ref a1, .int by0, .int rd, .ref a4, .ref a5, .ref a6, .ref a7, .int zz, .ref a9, .ref a10, .ref a11, .ref a12])), (a10, .inl (cI, 4, .inl (st4 b 0 (v2, b 1, v3, b 3))))] := hD
  refine lv_aload_n hx hb dX1_unmix_63 rfl (lv_at hl 0 rfl) ?_
  refine va_get (D := D) (ci := 1) (v := .ref a10) (C := RX1) (T := TX1) (N := 13) hx hb hts hinX1 hown hK hP 0 rfl rfl 10 (by decide) (hts (.fieldLink RX1 28 "SlicedCipherModel" "block" "[I") (by decide +kernel)) (fun _ h9 => h9) rfl dX1_unmix_64 ?_
  refine lv_iconst (v := nI 0) hx hb dX1_unmix_67 (by decide) ?_
  refine lv_aload_n hx hb dX1_unmix_68 rfl (lv_at hl 0 rfl) ?_
  refine va_get (D := D) (ci := 1) (v := .ref a10) (C := RX1) (T := TX1) (N := 13) hx hb hts hinX1 hown hK hP 0 rfl rfl 10 (by decide) (hts (.fieldLink RX1 28 "SlicedCipherModel" "block" "[I") (by decide +kernel)) (fun _ h9 => h9) rfl dX1_unmix_69 ?_
  refine lv_iconst (v := nI 0) hx hb dX1_unmix_72 (by decide) ?_
  refine wk_iald hx hb hK hP 1 0 rfl rfl (k := 0) (by decide) (by decide) dX1_unmix_73 ?_
  refine wk_i (y := v2) rfl ?_
  refine lv_aload_n hx hb dX1_unmix_74 rfl (lv_at hl 0 rfl) ?_
  refine va_get (D := D) (ci := 1) (v := .ref a10) (C := RX1) (T := TX1) (N := 13) hx hb hts hinX1 hown hK hP 0 rfl rfl 10 (by decide) (hts (.fieldLink RX1 28 "SlicedCipherModel" "block" "[I") (by decide +kernel)) (fun _ h9 => h9) rfl dX1_unmix_75 ?_
  refine lv_iconst (v := nI 1) hx hb dX1_unmix_78 (by decide) ?_
  refine wk_iald hx hb hK hP 1 0 rfl rfl (k := 1) (by decide) (by decide) dX1_unmix_79 ?_
  refine wk_i (y := b 1) rfl ?_
  refine lv_ixor hx hb dX1_unmix_80 ?_
  refine lv_aload_n hx hb dX1_unmix_81 rfl (lv_at hl 0 rfl) ?_
  refine va_get (D := D) (ci := 1) (v := .ref a10) (C := RX1) (T := TX1) (N := 13) hx hb hts hinX1 hown hK hP 0 rfl rfl 10 (by decide) (hts (.fieldLink RX1 28 "SlicedCipherModel" "block" "[I") (by decide +kernel)) (fun _ h9 => h9) rfl dX1_unmix_82 ?_
  refine lv_iconst (v := nI 3) hx hb dX1_unmix_85 (by decide) ?_
  refine wk_iald hx hb hK hP 1 0 rfl rfl (k := 3) (by decide) (by decide) dX1_unmix_86 ?_
  refine wk_i (y := b 3) rfl ?_
  refine lv_ixor hx hb dX1_unmix_87 ?_
  refine lv_topi (fun v4 ev4 => ?_)
  refine wk_iast hx hb hK hP hD hS 1 0 rfl rfl (k := 0) (x := v4) (by decide) (by decide) dX1_unmix_88 (fun H locs hP hD hS => ?_)
  simp only [List.set, up_0] at hP hD
  have hP : va_P D vwCl [(h0, .inr (1, [.int th, .ref a1, .int by0, .int rd, .ref a4, .ref a5, .ref a6, .ref a7, .int zz, .ref a9, .ref a10, .ref a11, .ref a12])), (a10, .inl (cI, 4, .inl (st4 b 0 (v4, b 1, v3, b 3))))] H := hP
  have hD : va_D A [(h0, .inr (1, [.int th, .ref a1, .int by0, .int rd, .ref a4, .ref a5, .ref a6, .ref a7, .int zz, .ref a9, .ref a10, .ref a11, .ref a12])), (a10, .inl (cI, 4, .inl (st4 b 0 (v4, b 1, v3, b 3))))] := hD
  refine lv_aload_n hx hb dX1_unmix_89 rfl (lv_at hl 0 rfl) ?_
  refine va_get (D := D) (ci := 1) (v := .ref a10) (C := RX1) (T := TX1) (N := 13) hx hb hts hinX1 hown hK hP 0 rfl rfl 10 (by decide) (hts (.fieldLink RX1 28 "SlicedCipherModel" "block" "[I") (by decide +kernel)) (fun _ h9 => h9) rfl dX1_unmix_90 ?_
  refine lv_iconst (v := nI 3) hx hb dX1_unmix_93 (by decide) ?_
  refine lv_aload_n hx hb dX1_unmix_94 rfl (lv_at hl 0 rfl) ?_
  refine va_get (D := D) (ci := 1) (v := .ref a10) (C := RX1) (T := TX1) (N := 13) hx hb hts hinX1 hown hK hP 0 rfl rfl 10 (by decide) (hts (.fieldLink RX1 28 "SlicedCipherModel" "block" "[I") (by decide +kernel)) (fun _ h9 => h9) rfl dX1_unmix_95 ?_
  refine lv_iconst (v := nI 3) hx hb dX1_unmix_98 (by decide) ?_
  refine wk_iald hx hb hK hP 1 0 rfl rfl (k := 3) (by decide) (by decide) dX1_unmix_99 ?_
  refine wk_i (y := b 3) rfl ?_
  refine lv_bipush (v := nI 7) hx hb dX1_unmix_100 (by decide) ?_
  refine wk_Sp (v := rotR (b 3) (nI 7)) (As := [.int (b 3), .int (nI 7)]) (rest := [.int (nI 3), .ref a10]) ⟨hx, hb, hml, hown, hts⟩ (c_X1_right l (b 3) 7 (by decide) (by decide)) (va_cwS 2 hts gX1_unmix_X1_right rfl rfl rfl (by decide +kernel) ⟨Nat.le_of_ble_eq_true rfl, Nat.le_of_ble_eq_true rfl⟩) rfl hl.1 rfl (Nat.le_of_ble_eq_true rfl) dX1_unmix_102 ⟨Nat.zero_le _, Nat.zero_le _⟩ ?_
  refine lv_topi (fun v5 ev5 => ?_)
  refine wk_iast hx hb hK hP hD hS 1 0 rfl rfl (k := 3) (x := v5) (by decide) (by decide) dX1_unmix_105 (fun H locs hP hD hS => ?_)
  simp only [List.set, up_3] at hP hD
  have hP : va_P D vwCl [(h0, .inr (1, [.int th, .ref a1, .int by0, .int rd, .ref a4, .ref a5, .ref a6, .ref a7, .int zz, .ref a9, .ref a10, .ref a11, .ref a12])), (a10, .inl (cI, 4, .inl (st4 b 0 (v4, b 1, v3, v5))))] H := hP
  have hD : va_D A [(h0, .inr (1, [.int th, .ref a1, .int by0, .int rd, .ref a4, .ref a5, .ref a6, .ref a7, .int zz, .ref a9, .ref a10, .ref a11, .ref a12])), (a10, .inl (cI, 4, .inl (st4 b 0 (v4, b 1, v3, v5))))] := hD
  refine lv_aload_n hx hb dX1_unmix_106 rfl (lv_at hl 0 rfl) ?_
  refine va_get (D := D) (ci := 1) (v := .ref a10) (C := RX1) (T := TX1) (N := 13) hx hb hts hinX1 hown hK hP 0 rfl rfl 10 (by decide) (hts (.fieldLink RX1 28 "SlicedCipherModel" "block" "[I") (by decide +kernel)) (fun _ h9 => h9) rfl dX1_unmix_107 ?_
  refine lv_iconst (v := nI 1) hx hb dX1_unmix_110 (by decide) ?_
  refine lv_aload_n hx hb dX1_unmix_111 rfl (lv_at hl 0 rfl) ?_
  refine va_get (D := D) (ci := 1) (v := .ref a10) (C := RX1) (T := TX1) (N := 13) hx hb hts hinX1 hown hK hP 0 rfl rfl 10 (by decide) (hts (.fieldLink RX1 28 "SlicedCipherModel" "block" "[I") (by decide +kernel)) (fun _ h9 => h9) rfl dX1_unmix_112 ?_
  refine lv_iconst (v := nI 1) hx hb dX1_unmix_115 (by decide) ?_
  refine wk_iald hx hb hK hP 1 0 rfl rfl (k := 1) (by decide) (by decide) dX1_unmix_116 ?_
  refine wk_i (y := b 1) rfl ?_
  refine lv_iconst (v := nI 1) hx hb dX1_unmix_117 (by decide) ?_
  refine wk_Sp (v := rotR (b 1) (nI 1)) (As := [.int (b 1), .int (nI 1)]) (rest := [.int (nI 1), .ref a10]) ⟨hx, hb, hml, hown, hts⟩ (c_X1_right l (b 1) 1 (by decide) (by decide)) (va_cwS 2 hts gX1_unmix_X1_right rfl rfl rfl (by decide +kernel) ⟨Nat.le_of_ble_eq_true rfl, Nat.le_of_ble_eq_true rfl⟩) rfl hl.1 rfl (Nat.le_of_ble_eq_true rfl) dX1_unmix_118 ⟨Nat.zero_le _, Nat.zero_le _⟩ ?_
  refine lv_topi (fun v6 ev6 => ?_)
  refine wk_iast hx hb hK hP hD hS 1 0 rfl rfl (k := 1) (x := v6) (by decide) (by decide) dX1_unmix_121 (fun H locs hP hD hS => ?_)
  simp only [List.set, up_1] at hP hD
  have hP : va_P D vwCl [(h0, .inr (1, [.int th, .ref a1, .int by0, .int rd, .ref a4, .ref a5, .ref a6, .ref a7, .int zz, .ref a9, .ref a10, .ref a11, .ref a12])), (a10, .inl (cI, 4, .inl (st4 b 0 (v4, v6, v3, v5))))] H := hP
  have hD : va_D A [(h0, .inr (1, [.int th, .ref a1, .int by0, .int rd, .ref a4, .ref a5, .ref a6, .ref a7, .int zz, .ref a9, .ref a10, .ref a11, .ref a12])), (a10, .inl (cI, 4, .inl (st4 b 0 (v4, v6, v3, v5))))] := hD
  refine lv_aload_n hx hb dX1_unmix_122 rfl (lv_at hl 0 rfl) ?_
  refine va_get (D := D) (ci := 1) (v := .ref a10) (C := RX1) (T := TX1) (N := 13) hx hb hts hinX1 hown hK hP 0 rfl rfl 10 (by decide) (hts (.fieldLink RX1 28 "SlicedCipherModel" "block" "[I") (by decide +kernel)) (fun _ h9 => h9) rfl dX1_unmix_123 ?_
  refine lv_iconst (v := nI 3) hx hb dX1_unmix_126 (by decide) ?_
  refine lv_aload_n hx hb dX1_unmix_127 rfl (lv_at hl 0 rfl) ?_
  refine va_get (D := D) (ci := 1) (v := .ref a10) (C := RX1) (T := TX1) (N := 13) hx hb hts hinX1 hown hK hP 0 rfl rfl 10 (by decide) (hts (.fieldLink RX1 28 "SlicedCipherModel" "block" "[I") (by decide +kernel)) (fun _ h9 => h9) rfl dX1_unmix_128 ?_
  refine lv_iconst (v := nI 3) hx hb dX1_unmix_131 (by decide) ?_
  refine wk_iald hx hb hK hP 1 0 rfl rfl (k := 3) (by decide) (by decide) dX1_unmix_132 ?_
  refine wk_i (y := v5) rfl ?_
  refine lv_aload_n hx hb dX1_unmix_133 rfl (lv_at hl 0 rfl) ?_
  refine va_get (D := D) (ci := 1) (v := .ref a10) (C := RX1) (T := TX1) (N := 13) hx hb hts hinX1 hown hK hP 0 rfl rfl 10 (by decide) (hts (.fieldLink RX1 28 "SlicedCipherModel" "block" "[I") (by decide +kernel)) (fun _ h9 => h9) rfl dX1_unmix_134 ?_
  refine lv_iconst (v := nI 2) hx hb dX1_unmix_137 (by decide) ?_
  refine wk_iald hx hb hK hP 1 0 rfl rfl (k := 2) (by decide) (by decide) dX1_unmix_138 ?_
  refine wk_i (y := v3) rfl ?_
  refine lv_ixor hx hb dX1_unmix_139 ?_
  refine lv_aload_n hx hb dX1_unmix_140 rfl (lv_at hl 0 rfl) ?_
  refine va_get (D := D) (ci := 1) (v := .ref a10) (C := RX1) (T := TX1) (N := 13) hx hb hts hinX1 hown hK hP 0 rfl rfl 10 (by decide) (hts (.fieldLink RX1 28 "SlicedCipherModel" "block" "[I") (by decide +kernel)) (fun _ h9 => h9) rfl dX1_unmix_141 ?_
  refine lv_iconst (v := nI 0) hx hb dX1_unmix_144 (by decide) ?_
  refine wk_iald hx hb hK hP 1 0 rfl rfl (k := 0) (by decide) (by decide) dX1_unmix_145 ?_
  refine wk_i (y := v4) rfl ?_
  refine lv_bipush (v := nI 8) hx hb dX1_unmix_146 (by decide) ?_
  refine lv_imul hx hb dX1_unmix_148 ?_
  refine wk_i (y := v4 <<< (nI 3 &&& 31)) (mul8 _) ?_
  refine lv_ixor hx hb dX1_unmix_149 ?_
  refine lv_topi (fun v7 ev7 => ?_)
  refine wk_iast hx hb hK hP hD hS 1 0 rfl rfl (k := 3) (x := v7) (by decide) (by decide) dX1_unmix_150 (fun H locs hP hD hS => ?_)
  simp only [List.set, up_3] at hP hD
  have hP : va_P D vwCl [(h0, .inr (1, [.int th, .ref a1, .int by0, .int rd, .ref a4, .ref a5, .ref a6, .ref a7, .int zz, .ref a9, .ref a10, .ref a11, .ref a12])), (a10, .inl (cI, 4, .inl (st4 b 0 (v4, v6, v3, v7))))] H := hP
  have hD : va_D A [(h0, .inr (1, [.int th, .ref a1, .int by0, .int rd, .ref a4, .ref a5, .ref a6, .ref a7, .int zz, .ref a9, .ref a10, .ref a11, .ref a12])), (a10, .inl (cI, 4, .inl (st4 b 0 (v4, v6, v3, v7))))] := hD
  refine lv_aload_n hx hb dX1_unmix_151 rfl (lv_at hl 0 rfl) ?_
  refine va_get (D := D) (ci := 1) (v := .ref a10) (C := RX1) (T := TX1) (N := 13) hx hb hts hinX1 hown hK hP 0 rfl rfl 10 (by decide) (hts (.fieldLink RX1 28 "SlicedCipherModel" "block" "[I") (by decide +kernel)) (fun _ h9 => h9) rfl dX1_unmix_152 ?_
  refine lv_iconst (v := nI 1) hx hb dX1_unmix_155 (by decide) ?_
  refine lv_aload_n hx hb dX1_unmix_156 rfl (lv_at hl 0 rfl) ?_
  refine va_get (D := D) (ci := 1) (v := .ref a10) (C := RX1) (T := TX1) (N := 13) hx hb hts hinX1 hown hK hP 0 rfl rfl 10 (by decide) (hts (.fieldLink RX1 28 "SlicedCipherModel" "block" "[I") (by decide +kernel)) (fun _ h9 => h9) rfl dX1_unmix_157 ?_
  refine lv_iconst (v := nI 1) hx hb dX1_unmix_160 (by decide) ?_
  refine wk_iald hx hb hK hP 1 0 rfl rfl (k := 1) (by decide) (by decide) dX1_unmix_161 ?_
  refine wk_i (y := v6) rfl ?_
  refine lv_aload_n hx hb dX1_unmix_162 rfl (lv_at hl 0 rfl) ?_
  refine va_get (D := D) (ci := 1) (v := .ref a10) (C := RX1) (T := TX1) (N := 13) hx hb hts hinX1 hown hK hP 0 rfl rfl 10 (by decide) (hts (.fieldLink RX1 28 "SlicedCipherModel" "block" "[I") (by decide +kernel)) (fun _ h9 => h9) rfl dX1_unmix_163 ?_
  refine lv_iconst (v := nI 0) hx hb dX1_unmix_166 (by decide) ?_
  refine wk_iald hx hb hK hP 1 0 rfl rfl (k := 0) (by decide) (by decide) dX1_unmix_167 ?_
  refine wk_i (y := v4) rfl ?_
  refine lv_ixor hx hb dX1_unmix_168 ?_
  refine lv_aload_n hx hb dX1_unmix_169 rfl (lv_at hl 0 rfl) ?_
  refine va_get (D := D) (ci := 1) (v := .ref a10) (C := RX1) (T := TX1) (N := 13) hx hb hts hinX1 hown hK hP 0 rfl rfl 10 (by decide) (hts (.fieldLink RX1 28 "SlicedCipherModel" "block" "[I") (by decide +kernel)) (fun _ h9 => h9) rfl dX1_unmix_170 ?_
  refine lv_iconst (v := nI 2) hx hb dX1_unmix_173 (by decide) ?_
  refine wk_iald hx hb hK hP 1 0 rfl rfl (k := 2) (by decide) (by decide) dX1_unmix_174 ?_
  refine wk_i (y := v3) rfl ?_
  refine lv_ixor hx hb dX1_unmix_175 ?_
  refine lv_topi (fun v8 ev8 => ?_)
  refine wk_iast hx hb hK hP hD hS 1 0 rfl rfl (k := 1) (x := v8) (by decide) (by decide) dX1_unmix_176 (fun H locs hP hD hS => ?_)
  simp only [List.set, up_1] at hP hD
  have hP : va_P D vwCl [(h0, .inr (1, [.int th, .ref a1, .int by0, .int rd, .ref a4, .ref a5, .ref a6, .ref a7, .int zz, .ref a9, .ref a10, .ref a11, .ref a12])), (a10, .inl (cI, 4, .inl (st4 b 0 (v4, v8, v3, v7))))] H := hP
  have hD : va_D A [(h0, .inr (1, [.int th, .ref a1, .int by0, .int rd, .ref a4, .ref a5, .ref a6, .ref a7, .int zz, .ref a9, .ref a10, .ref a11, .ref a12])), (a10, .inl (cI, 4, .inl (st4 b 0 (v4, v8, v3, v7))))] := hD
  refine lv_aload_n hx hb dX1_unmix_177 rfl (lv_at hl 0 rfl) ?_
  refine va_get (D := D) (ci := 1) (v := .ref a10) (C := RX1) (T := TX1) (N := 13) hx hb hts hinX1 hown hK hP 0 rfl rfl 10 (by decide) (hts (.fieldLink RX1 28 "SlicedCipherModel" "block" "[I") (by decide +kernel)) (fun _ h9 => h9) rfl dX1_unmix_178 ?_
  refine lv_iconst (v := nI 2) hx hb dX1_unmix_181 (by decide) ?_
  refine lv_aload_n hx hb dX1_unmix_182 rfl (lv_at hl 0 rfl) ?_
  refine va_get (D := D) (ci := 1) (v := .ref a10) (C := RX1) (T := TX1) (N := 13) hx hb hts hinX1 hown hK hP 0 rfl rfl 10 (by decide) (hts (.fieldLink RX1 28 "SlicedCipherModel" "block" "[I") (by decide +kernel)) (fun _ h9 => h9) rfl dX1_unmix_183 ?_
  refine lv_iconst (v := nI 2) hx hb dX1_unmix_186 (by decide) ?_
  refine wk_iald hx hb hK hP 1 0 rfl rfl (k := 2) (by decide) (by decide) dX1_unmix_187 ?_
  refine wk_i (y := v3) rfl ?_
  refine lv_iconst (v := nI 3) hx hb dX1_unmix_188 (by decide) ?_
  refine wk_Sp (v := rotR v3 (nI 3)) (As := [.int v3, .int (nI 3)]) (rest := [.int (nI 2), .ref a10]) ⟨hx, hb, hml, hown, hts⟩ (c_X1_right l v3 3 (by decide) (by decide)) (va_cwS 2 hts gX1_unmix_X1_right rfl rfl rfl (by decide +kernel) ⟨Nat.le_of_ble_eq_true rfl, Nat.le_of_ble_eq_true rfl⟩) rfl hl.1 rfl (Nat.le_of_ble_eq_true rfl) dX1_unmix_189 ⟨Nat.zero_le _, Nat.zero_le _⟩ ?_
  refine lv_topi (fun v9 ev9 => ?_)
  refine wk_iast hx hb hK hP hD hS 1 0 rfl rfl (k := 2) (x := v9) (by decide) (by decide) dX1_unmix_192 (fun H locs hP hD hS => ?_)
  simp only [List.set, up_2] at hP hD
  have hP : va_P D vwCl [(h0, .inr (1, [.int th, .ref a1, .int by0, .int rd, .ref a4, .ref a5, .ref a6, .ref a7, .int zz, .ref a9, .ref a10, .ref a11, .ref a12])), (a10, .inl (cI, 4, .inl (st4 b 0 (v4, v8, v9, v7))))] H := hP
  have hD : va_D A [(h0, .inr (1, [.int th, .ref a1, .int by0, .int rd, .ref a4, .ref a5, .ref a6, .ref a7, .int zz, .ref a9, .ref a10, .ref a11, .ref a12])), (a10, .inl (cI, 4, .inl (st4 b 0 (v4, v8, v9, v7))))] := hD
  refine lv_aload_n hx hb dX1_unmix_193 rfl (lv_at hl 0 rfl) ?_
  refine va_get (D := D) (ci := 1) (v := .ref a10) (C := RX1) (T := TX1) (N := 13) hx hb hts hinX1 hown hK hP 0 rfl rfl 10 (by decide) (hts (.fieldLink RX1 28 "SlicedCipherModel" "block" "[I") (by decide +kernel)) (fun _ h9 => h9) rfl dX1_unmix_194 ?_
  refine lv_iconst (v := nI 0) hx hb dX1_unmix_197 (by decide) ?_
  refine lv_aload_n hx hb dX1_unmix_198 rfl (lv_at hl 0 rfl) ?_
  refine va_get (D := D) (ci := 1) (v := .ref a10) (C := RX1) (T := TX1) (N := 13) hx hb hts hinX1 hown hK hP 0 rfl rfl 10 (by decide) (hts (.fieldLink RX1 28 "SlicedCipherModel" "block" "[I") (by decide +kernel)) (fun _ h9 => h9) rfl dX1_unmix_199 ?_
  refine lv_iconst (v := nI 0) hx hb dX1_unmix_202 (by decide) ?_
  refine wk_iald hx hb hK hP 1 0 rfl rfl (k := 0) (by decide) (by decide) dX1_unmix_203 ?_
  refine wk_i (y := v4) rfl ?_
  refine lv_bipush (v := nI 13) hx hb dX1_unmix_204 (by decide) ?_
  refine wk_Sp (v := rotR v4 (nI 13)) (As := [.int v4, .int (nI 13)]) (rest := [.int (nI 0), .ref a10]) ⟨hx, hb, hml, hown, hts⟩ (c_X1_right l v4 13 (by decide) (by decide)) (va_cwS 2 hts gX1_unmix_X1_right rfl rfl rfl (by decide +kernel) ⟨Nat.le_of_ble_eq_true rfl, Nat.le_of_ble_eq_true rfl⟩) rfl hl.1 rfl (Nat.le_of_ble_eq_true rfl) dX1_unmix_206 ⟨Nat.zero_le _, Nat.zero_le _⟩ ?_
  refine lv_topi (fun v10 ev10 => ?_)
  refine wk_iast hx hb hK hP hD hS 1 0 rfl rfl (k := 0) (x := v10) (by decide) (by decide) dX1_unmix_209 (fun H locs hP hD hS => ?_)
  simp only [List.set, up_0] at hP hD
  have hP : va_P D vwCl [(h0, .inr (1, [.int th, .ref a1, .int by0, .int rd, .ref a4, .ref a5, .ref a6, .ref a7, .int zz, .ref a9, .ref a10, .ref a11, .ref a12])), (a10, .inl (cI, 4, .inl (st4 b 0 (v10, v8, v9, v7))))] H := hP
  have hD : va_D A [(h0, .inr (1, [.int th, .ref a1, .int by0, .int rd, .ref a4, .ref a5, .ref a6, .ref a7, .int zz, .ref a9, .ref a10, .ref a11, .ref a12])), (a10, .inl (cI, 4, .inl (st4 b 0 (v10, v8, v9, v7))))] := hD
  have e9 : ((v10, v8, v9, v7) : Qd) = cUnmix (ld4 b 0) := by subst ev10 ev9 ev8 ev7 ev6 ev5 ev4 ev3 ev2 ev1; rfl
  rw [e9] at hP hD
  exact W.vret hx hb hr (fun t ht hW => ⟨⟨(), rfl, trivial, by rw [ht]; exact hP, va_K.moved hW.alike hK, hD⟩, hS.F ht⟩) hS.2.2 dX1_unmix_210
theorem nibR_at (b : Nat → Int32) (pl : Nat) {j : Nat} (h : j < 4) : nibR b pl (4 - j) = (2 * (nibR b pl (4 - (j + 1)))) + (bN (b j) pl) := by
  obtain ⟨q, hq⟩ : ∃ q, 4 - j = q + 1 := ⟨3 - j, by omega⟩
  have e1 : 4 - (j + 1) = q := by omega
  have e2 : 3 - q = j := by omega
  rw [hq, e1]
  show (2 * nibR b pl q) + bN (b (3 - q)) pl = _
  rw [e2]
set_option maxRecDepth 100000 in
theorem in_X1_through : ∀ w ∈ wsX10, w ∈ wsX1_through := by decide +kernel
set_option maxHeartbeats 4000000 in
set_option maxRecDepth 100000 in
theorem c_X1_through0 (l : Launch) (D : va_G) (cI : ClassId) (sz : Nat) (h0 a1 a4 a5 a6 a7 a9 a10 a11 a12 : Nat) (th by0 rd zz : Int32) (wh : Nat) (b d : Nat → Int32) (h1 : wh < 8) : Met l yX1_through wsX1_through ({ frames := 1, cells := 0, slots := 0, locals := 23 }) (va_Pc [.ref h0, .int (nI wh), .int (nI 0)] (fun U => PW D [(cI, .int)] [(h0, .inr (1, [.int th, .ref a1, .int by0, .int rd, .ref a4, .ref a5, .ref a6, .ref a7, .int zz, .ref a9, .ref a10, .ref a11, .ref a12])), (a9, .inl (cI, 128, .inl TB)), (a10, .inl (cI, 4, .inl b)), (a11, .inl (cI, 4, .inl d))] sz U ∧ True)) (va_Qv (fun _ : Unit => True) (fun _ => BW D [(cI, .int)] (va_A [(h0, .inr (1, [.int th, .ref a1, .int by0, .int rd, .ref a4, .ref a5, .ref a6, .ref a7, .int zz, .ref a9, .ref a10, .ref a11, .ref a12])), (a9, .inl (cI, 128, .inl TB)), (a10, .inl (cI, 4, .inl b)), (a11, .inl (cI, 4, .inl d))] sz) [(h0, .inr (1, [.int th, .ref a1, .int by0, .int rd, .ref a4, .ref a5, .ref a6, .ref a7, .int zz, .ref a9, .ref a10, .ref a11, .ref a12])), (a9, .inl (cI, 128, .inl TB)), (a10, .inl (cI, 4, .inl (st4 b 0 (cBox 0 wh (ld4 b 0))))), (a11, .inl (cI, 4, .inl (st4 d 0 (cBox 0 wh (ld4 b 0)))))]) (va_A [(h0, .inr (1, [.int th, .ref a1, .int by0, .int rd, .ref a4, .ref a5, .ref a6, .ref a7, .int zz, .ref a9, .ref a10, .ref a11, .ref a12])), (a9, .inl (cI, 128, .inl TB)), (a10, .inl (cI, 4, .inl b)), (a11, .inl (cI, 4, .inl d))] sz)) 0 0 (va_A [(h0, .inr (1, [.int th, .ref a1, .int by0, .int rd, .ref a4, .ref a5, .ref a6, .ref a7, .int zz, .ref a9, .ref a10, .ref a11, .ref a12])), (a9, .inl (cI, 128, .inl TB)), (a10, .inl (cI, 4, .inl b)), (a11, .inl (cI, 4, .inl d))] sz) := by
  refine Met.ofW (cc := cX1_through) (maxL := 7) (ret := none) (by decide) rfl ?_
  intro p e s m args below meth c s₁ B hml hv
  obtain ⟨rfl, ⟨hsz, hP, hK, hD0⟩, -⟩ := hv
  have hx := B.exec
  have hb := B.bytes
  have hr := B.returns
  have hts := atoms_spec (ws := wsX1_through) B.pre
  have hown : s.vm.findClass RX1 = some m.cls := findClass_of_methodNamed B.named
  have hlocks := B.notSynchronized
  subst hsz
  have hD := hD0.self (sz := s.heap.size)
  have hinX1 := in_X1_through
  generalize hAe : va_A [(h0, .inr (1, [.int th, .ref a1, .int by0, .int rd, .ref a4, .ref a5, .ref a6, .ref a7, .int zz, .ref a9, .ref a10, .ref a11, .ref a12])), (a9, .inl (cI, 128, .inl TB)), (a10, .inl (cI, 4, .inl b)), (a11, .inl (cI, 4, .inl d))] s.heap.size = A at hD ⊢
  have hA : ∀ q : Nat, s.heap.size ≤ q → A q := fun q h => by rw [← hAe]; exact Or.inr h
  have hS : va_S A s.heap s.heap [] := va_S.rf
  have hl := lv_entry ([.ref h0, .int (nI wh), .int (nI 0)]) (n := 7) (Nat.le_of_ble_eq_true rfl)
  rw [lg_entry_eq]
  generalize (lg_sl ([.ref h0, .int (nI wh), .int (nI 0)]) ++ List.replicate (7 - (lg_sl ([.ref h0, .int (nI wh), .int (nI 0)])).length) Slot.unset).toArray = ls at hl ⊢
  have hl : lv_has ls 7 [(0, .ref h0), (1, .int (nI wh)), (2, .int (nI 0))] := hl
  have lpE : ∀ (fu : Nat) (k : Nat), k ≤ 4 → 4 + 1 ≤ k + fu → ∀ (H : Heap) (locs : List Loc), va_P D vwCl [(h0, .inr (1, [.int th, .ref a1, .int by0, .int rd, .ref a4, .ref a5, .ref a6, .ref a7, .int zz, .ref a9, .ref a10, .ref a11, .ref a12])), (a9, .inl (cI, 128, .inl TB)), (a10, .inl (cI, 4, .inl (cpZ b (st4 d 0 (cBox 0 wh (ld4 b 0))) k))), (a11, .inl (cI, 4, .inl (st4 d 0 (cBox 0 wh (ld4 b 0)))))] H → va_D A [(h0, .inr (1, [.int th, .ref a1, .int by0, .int rd, .ref a4, .ref a5, .ref a6, .ref a7, .int zz, .ref a9, .ref a10, .ref a11, .ref a12])), (a9, .inl (cI, 128, .inl TB)), (a10, .inl (cI, 4, .inl (cpZ b (st4 d 0 (cBox 0 wh (ld4 b 0))) k))), (a11, .inl (cI, 4, .inl (st4 d 0 (cBox 0 wh (ld4 b 0)))))] → va_S A s.heap H locs → ∀ (ls : Array Slot), lv_has ls 7 [(0, .ref h0), (1, .int (nI wh)), (2, .int (nI 0)), (3, .int (nI k))] → W p l e ((headSpec wsX1_through ({ frames := 1, cells := 0, slots := 0, locals := 23 })).room) s m ([.ref h0, .int (nI wh), .int (nI 0)] : List Value).toArray below meth c H locs 0 0 (MQ below (va_Qv (fun _ : Unit => True) (fun _ => BW D [(cI, .int)] A [(h0, .inr (1, [.int th, .ref a1, .int by0, .int rd, .ref a4, .ref a5, .ref a6, .ref a7, .int zz, .ref a9, .ref a10, .ref a11, .ref a12])), (a9, .inl (cI, 128, .inl TB)), (a10, .inl (cI, 4, .inl (st4 b 0 (cBox 0 wh (ld4 b 0))))), (a11, .inl (cI, 4, .inl (st4 d 0 (cBox 0 wh (ld4 b 0)))))]) A) ([.ref h0, .int (nI wh), .int (nI 0)] : List Value).toArray s 0 0 (A)) (F0 m 138 ls []) := by
    intro fu
    induction fu with
      | zero => intro k hik hfk; exact absurd hfk (by omega)
      | succ fu ih =>
        intro k hik hfk H locs hP hD hS ls hl
        refine lv_iload_n hx hb dX1_through_138 rfl (lv_at hl 3 rfl) ?_
        refine lv_iconst (v := nI 4) hx hb dX1_through_139 (by decide) ?_
        refine wk_geN (tgt := 161) hx hb (a := k) (b := 4) (by omega) (by decide) dX1_through_140 (by decide) (fun c140 => ?_) (fun c140 => ?_)
        · obtain rfl : k = 4 := by omega
          rw [cpZ_4, ld4_st4] at hP hD
          exact W.vret hx hb hr (fun t ht hW => ⟨⟨(), rfl, trivial, by rw [ht]; exact hP, va_K.moved hW.alike hK, hD⟩, hS.F ht⟩) hS.2.2 dX1_through_161
        · refine lv_aload_n hx hb dX1_through_143 rfl (lv_at hl 0 rfl) ?_
          refine va_get (D := D) (ci := 1) (v := .ref a10) (C := RX1) (T := TX1) (N := 13) hx hb hts hinX1 hown hK hP 0 rfl rfl 10 (by decide) (hts (.fieldLink RX1 28 "SlicedCipherModel" "block" "[I") (by decide +kernel)) (fun _ h9 => h9) rfl dX1_through_144 ?_
          refine lv_iload_n hx hb dX1_through_147 rfl (lv_at hl 3 rfl) ?_
          refine lv_aload_n hx hb dX1_through_148 rfl (lv_at hl 0 rfl) ?_
          refine va_get (D := D) (ci := 1) (v := .ref a11) (C := RX1) (T := TX1) (N := 13) hx hb hts hinX1 hown hK hP 0 rfl rfl 11 (by decide) (hts (.fieldLink RX1 31 "SlicedCipherModel" "made" "[I") (by decide +kernel)) (fun _ h9 => h9) rfl dX1_through_149 ?_
          refine lv_iload_n hx hb dX1_through_152 rfl (lv_at hl 3 rfl) ?_
          refine wk_iald hx hb hK hP 3 0 rfl rfl (k := k) (by omega) (by decide) dX1_through_153 ?_
          refine wk_iast hx hb hK hP hD hS 2 0 rfl rfl (k := k) (x := (st4 d 0 (cBox 0 wh (ld4 b 0))) k) (by omega) (by decide) dX1_through_154 (fun H locs hP hD hS => ?_)
          have hP : va_P D vwCl [(h0, .inr (1, [.int th, .ref a1, .int by0, .int rd, .ref a4, .ref a5, .ref a6, .ref a7, .int zz, .ref a9, .ref a10, .ref a11, .ref a12])), (a9, .inl (cI, 128, .inl TB)), (a10, .inl (cI, 4, .inl (upd (cpZ b (st4 d 0 (cBox 0 wh (ld4 b 0))) k) k ((st4 d 0 (cBox 0 wh (ld4 b 0))) k)))), (a11, .inl (cI, 4, .inl (st4 d 0 (cBox 0 wh (ld4 b 0)))))] H := hP
          have hD : va_D A [(h0, .inr (1, [.int th, .ref a1, .int by0, .int rd, .ref a4, .ref a5, .ref a6, .ref a7, .int zz, .ref a9, .ref a10, .ref a11, .ref a12])), (a9, .inl (cI, 128, .inl TB)), (a10, .inl (cI, 4, .inl (upd (cpZ b (st4 d 0 (cBox 0 wh (ld4 b 0))) k) k ((st4 d 0 (cBox 0 wh (ld4 b 0))) k)))), (a11, .inl (cI, 4, .inl (st4 d 0 (cBox 0 wh (ld4 b 0)))))] := hD
          refine lv_iinc (v := nI (k + 1)) (lv' := [(3, .int (nI (k + 1))), (0, .ref h0), (1, .int (nI wh)), (2, .int (nI 0))]) hx hb dX1_through_155 hl (k := 3) rfl (wk_inc k (by decide)) (by decide) rfl (fun ls hl => ?_)
          refine lv_goto (tgt := 138) hx hb dX1_through_158 (by decide) ?_
          exact ih (k + 1) (by omega) (by omega) _ _ hP hD hS ls (lv_sub hl [1, 2, 3, 0] rfl)
  have lpP : ∀ (fu : Nat) (pl : Nat), pl ≤ 32 → 33 ≤ pl + fu → ∀ (H : Heap) (locs : List Loc), va_P D vwCl [(h0, .inr (1, [.int th, .ref a1, .int by0, .int rd, .ref a4, .ref a5, .ref a6, .ref a7, .int zz, .ref a9, .ref a10, .ref a11, .ref a12])), (a9, .inl (cI, 128, .inl TB)), (a10, .inl (cI, 4, .inl b)), (a11, .inl (cI, 4, .inl (st4 d 0 (mQ 0 wh b pl))))] H → va_D A [(h0, .inr (1, [.int th, .ref a1, .int by0, .int rd, .ref a4, .ref a5, .ref a6, .ref a7, .int zz, .ref a9, .ref a10, .ref a11, .ref a12])), (a9, .inl (cI, 128, .inl TB)), (a10, .inl (cI, 4, .inl b)), (a11, .inl (cI, 4, .inl (st4 d 0 (mQ 0 wh b pl))))] → va_S A s.heap H locs → ∀ (ls : Array Slot), lv_has ls 7 [(0, .ref h0), (1, .int (nI wh)), (2, .int (nI 0)), (3, .int (nI pl))] → W p l e ((headSpec wsX1_through ({ frames := 1, cells := 0, slots := 0, locals := 23 })).room) s m ([.ref h0, .int (nI wh), .int (nI 0)] : List Value).toArray below meth c H locs 0 0 (MQ below (va_Qv (fun _ : Unit => True) (fun _ => BW D [(cI, .int)] A [(h0, .inr (1, [.int th, .ref a1, .int by0, .int rd, .ref a4, .ref a5, .ref a6, .ref a7, .int zz, .ref a9, .ref a10, .ref a11, .ref a12])), (a9, .inl (cI, 128, .inl TB)), (a10, .inl (cI, 4, .inl (st4 b 0 (cBox 0 wh (ld4 b 0))))), (a11, .inl (cI, 4, .inl (st4 d 0 (cBox 0 wh (ld4 b 0)))))]) A) ([.ref h0, .int (nI wh), .int (nI 0)] : List Value).toArray s 0 0 (A)) (F0 m 22 ls []) := by
    intro fu
    induction fu with
      | zero => intro pl hip hfp; exact absurd hfp (by omega)
      | succ fu ih =>
        intro pl hip hfp H locs hP hD hS ls hl
        refine lv_iload_n hx hb dX1_through_22 rfl (lv_at hl 3 rfl) ?_
        refine lv_bipush (v := nI 32) hx hb dX1_through_23 (by decide) ?_
        refine wk_geN (tgt := 136) hx hb (a := pl) (b := 32) (by omega) (by decide) dX1_through_25 (by decide) (fun c25 => ?_) (fun c25 => ?_)
        · obtain rfl : pl = 32 := by omega
          rw [show mQ 0 wh b 32 = cBox 0 wh (ld4 b 0) from box_eq (by decide) h1 b] at hP hD
          refine lv_iconst (v := nI 0) hx hb dX1_through_136 (by decide) ?_
          refine lv_istore_n (lv' := [(3, .int (nI 0)), (0, .ref h0), (1, .int (nI wh)), (2, .int (nI 0))]) hx hb dX1_through_137 rfl hl (by decide) rfl (fun ls hl => ?_)
          exact lpE 5 0 (by omega) (by omega) _ _ hP hD hS ls (lv_sub hl [1, 2, 3, 0] rfl)
        · have ihP := ih
          have lpM : ∀ (fu : Nat) (k : Nat), k ≤ 4 → 4 + 1 ≤ k + fu → ∀ (H : Heap) (locs : List Loc), va_P D vwCl [(h0, .inr (1, [.int th, .ref a1, .int by0, .int rd, .ref a4, .ref a5, .ref a6, .ref a7, .int zz, .ref a9, .ref a10, .ref a11, .ref a12])), (a9, .inl (cI, 128, .inl TB)), (a10, .inl (cI, 4, .inl b)), (a11, .inl (cI, 4, .inl (inF (st4 d 0 (mQ 0 wh b pl)) (boxV 0 wh (nibR b pl 4)) pl k)))] H → va_D A [(h0, .inr (1, [.int th, .ref a1, .int by0, .int rd, .ref a4, .ref a5, .ref a6, .ref a7, .int zz, .ref a9, .ref a10, .ref a11, .ref a12])), (a9, .inl (cI, 128, .inl TB)), (a10, .inl (cI, 4, .inl b)), (a11, .inl (cI, 4, .inl (inF (st4 d 0 (mQ 0 wh b pl)) (boxV 0 wh (nibR b pl 4)) pl k)))] → va_S A s.heap H locs → ∀ (ls : Array Slot), lv_has ls 7 [(0, .ref h0), (1, .int (nI wh)), (2, .int (nI 0)), (3, .int (nI pl)), (5, .int (boxV 0 wh (nibR b pl 4))), (6, .int (nI k))] → W p l e ((headSpec wsX1_through ({ frames := 1, cells := 0, slots := 0, locals := 23 })).room) s m ([.ref h0, .int (nI wh), .int (nI 0)] : List Value).toArray below meth c H locs 0 0 (MQ below (va_Qv (fun _ : Unit => True) (fun _ => BW D [(cI, .int)] A [(h0, .inr (1, [.int th, .ref a1, .int by0, .int rd, .ref a4, .ref a5, .ref a6, .ref a7, .int zz, .ref a9, .ref a10, .ref a11, .ref a12])), (a9, .inl (cI, 128, .inl TB)), (a10, .inl (cI, 4, .inl (st4 b 0 (cBox 0 wh (ld4 b 0))))), (a11, .inl (cI, 4, .inl (st4 d 0 (cBox 0 wh (ld4 b 0)))))]) A) ([.ref h0, .int (nI wh), .int (nI 0)] : List Value).toArray s 0 0 (A)) (F0 m 94 ls []) := by
            intro fu
            induction fu with
              | zero => intro k hik hfk; exact absurd hfk (by omega)
              | succ fu ih =>
                intro k hik hfk H locs hP hD hS ls hl
                refine lv_iload hx hb dX1_through_94 (lv_at hl 5 rfl) ?_
                refine lv_iconst (v := nI 4) hx hb dX1_through_96 (by decide) ?_
                refine wk_geN (tgt := 130) hx hb (a := k) (b := 4) (by omega) (by decide) dX1_through_97 (by decide) (fun c97 => ?_) (fun c97 => ?_)
                · obtain rfl : k = 4 := by omega
                  rw [mQ_step] at hP hD
                  refine lv_iinc (v := nI (pl + 1)) (lv' := [(3, .int (nI (pl + 1))), (0, .ref h0), (1, .int (nI wh)), (2, .int (nI 0)), (5, .int (boxV 0 wh (nibR b pl 4))), (6, .int (nI 4))]) hx hb dX1_through_130 hl (k := 3) rfl (wk_inc pl (by decide)) (by decide) rfl (fun ls hl => ?_)
                  refine lv_goto (tgt := 22) hx hb dX1_through_133 (by decide) ?_
                  exact ihP (pl + 1) (by omega) (by omega) _ _ hP hD hS ls (lv_sub hl [1, 2, 3, 0] rfl)
                · refine lv_aload_n hx hb dX1_through_100 rfl (lv_at hl 0 rfl) ?_
                  refine va_get (D := D) (ci := 1) (v := .ref a11) (C := RX1) (T := TX1) (N := 13) hx hb hts hinX1 hown hK hP 0 rfl rfl 11 (by decide) (hts (.fieldLink RX1 31 "SlicedCipherModel" "made" "[I") (by decide +kernel)) (fun _ h9 => h9) rfl dX1_through_101 ?_
                  refine lv_iload hx hb dX1_through_104 (lv_at hl 5 rfl) ?_
                  refine lv_aload_n hx hb dX1_through_106 rfl (lv_at hl 0 rfl) ?_
                  refine va_get (D := D) (ci := 1) (v := .ref a11) (C := RX1) (T := TX1) (N := 13) hx hb hts hinX1 hown hK hP 0 rfl rfl 11 (by decide) (hts (.fieldLink RX1 31 "SlicedCipherModel" "made" "[I") (by decide +kernel)) (fun _ h9 => h9) rfl dX1_through_107 ?_
                  refine lv_iload hx hb dX1_through_110 (lv_at hl 5 rfl) ?_
                  refine wk_iald hx hb hK hP 3 0 rfl rfl (k := k) (by omega) (by decide) dX1_through_112 ?_
                  refine lv_iload hx hb dX1_through_113 (lv_at hl 4 rfl) ?_
                  refine lv_iload hx hb dX1_through_115 (lv_at hl 5 rfl) ?_
                  refine lv_ishr hx hb dX1_through_117 ?_
                  refine lv_iconst (v := nI 1) hx hb dX1_through_118 (by decide) ?_
                  refine lv_iand hx hb dX1_through_119 ?_
                  refine lv_iload_n hx hb dX1_through_120 rfl (lv_at hl 3 rfl) ?_
                  refine lv_ishl hx hb dX1_through_121 ?_
                  refine lv_ior hx hb dX1_through_122 ?_
                  refine wk_iast hx hb hK hP hD hS 3 0 rfl rfl (k := k) (x := ((inF (st4 d 0 (mQ 0 wh b pl)) (boxV 0 wh (nibR b pl 4)) pl k) k) ||| ((((boxV 0 wh (nibR b pl 4)) >>> ((nI k) &&& 31)) &&& (nI 1)) <<< ((nI pl) &&& 31))) (by omega) (by decide) dX1_through_123 (fun H locs hP hD hS => ?_)
                  have hP : va_P D vwCl [(h0, .inr (1, [.int th, .ref a1, .int by0, .int rd, .ref a4, .ref a5, .ref a6, .ref a7, .int zz, .ref a9, .ref a10, .ref a11, .ref a12])), (a9, .inl (cI, 128, .inl TB)), (a10, .inl (cI, 4, .inl b)), (a11, .inl (cI, 4, .inl (upd (inF (st4 d 0 (mQ 0 wh b pl)) (boxV 0 wh (nibR b pl 4)) pl k) k (((inF (st4 d 0 (mQ 0 wh b pl)) (boxV 0 wh (nibR b pl 4)) pl k) k) ||| ((((boxV 0 wh (nibR b pl 4)) >>> ((nI k) &&& 31)) &&& (nI 1)) <<< ((nI pl) &&& 31))))))] H := hP
                  have hD : va_D A [(h0, .inr (1, [.int th, .ref a1, .int by0, .int rd, .ref a4, .ref a5, .ref a6, .ref a7, .int zz, .ref a9, .ref a10, .ref a11, .ref a12])), (a9, .inl (cI, 128, .inl TB)), (a10, .inl (cI, 4, .inl b)), (a11, .inl (cI, 4, .inl (upd (inF (st4 d 0 (mQ 0 wh b pl)) (boxV 0 wh (nibR b pl 4)) pl k) k (((inF (st4 d 0 (mQ 0 wh b pl)) (boxV 0 wh (nibR b pl 4)) pl k) k) ||| ((((boxV 0 wh (nibR b pl 4)) >>> ((nI k) &&& 31)) &&& (nI 1)) <<< ((nI pl) &&& 31))))))] := hD
                  refine lv_iinc (v := nI (k + 1)) (lv' := [(6, .int (nI (k + 1))), (0, .ref h0), (1, .int (nI wh)), (2, .int (nI 0)), (3, .int (nI pl)), (5, .int (boxV 0 wh (nibR b pl 4)))]) hx hb dX1_through_124 hl (k := 5) rfl (wk_inc k (by decide)) (by decide) rfl (fun ls hl => ?_)
                  refine lv_goto (tgt := 94) hx hb dX1_through_127 (by decide) ?_
                  exact ih (k + 1) (by omega) (by omega) _ _ hP hD hS ls (lv_sub hl [1, 2, 3, 4, 5, 0] rfl)
          have lpN : ∀ (fu : Nat) (j : Nat), j ≤ 4 → j + 1 ≤ fu → ∀ (H : Heap) (locs : List Loc), va_P D vwCl [(h0, .inr (1, [.int th, .ref a1, .int by0, .int rd, .ref a4, .ref a5, .ref a6, .ref a7, .int zz, .ref a9, .ref a10, .ref a11, .ref a12])), (a9, .inl (cI, 128, .inl TB)), (a10, .inl (cI, 4, .inl b)), (a11, .inl (cI, 4, .inl (st4 d 0 (mQ 0 wh b pl))))] H → va_D A [(h0, .inr (1, [.int th, .ref a1, .int by0, .int rd, .ref a4, .ref a5, .ref a6, .ref a7, .int zz, .ref a9, .ref a10, .ref a11, .ref a12])), (a9, .inl (cI, 128, .inl TB)), (a10, .inl (cI, 4, .inl b)), (a11, .inl (cI, 4, .inl (st4 d 0 (mQ 0 wh b pl))))] → va_S A s.heap H locs → ∀ (ls : Array Slot), lv_has ls 7 [(0, .ref h0), (1, .int (nI wh)), (2, .int (nI 0)), (3, .int (nI pl)), (4, .int (nI (nibR b pl (4 - j)))), (5, .int (nI j + Int32.ofInt (-1)))] → W p l e ((headSpec wsX1_through ({ frames := 1, cells := 0, slots := 0, locals := 23 })).room) s m ([.ref h0, .int (nI wh), .int (nI 0)] : List Value).toArray below meth c H locs 0 0 (MQ below (va_Qv (fun _ : Unit => True) (fun _ => BW D [(cI, .int)] A [(h0, .inr (1, [.int th, .ref a1, .int by0, .int rd, .ref a4, .ref a5, .ref a6, .ref a7, .int zz, .ref a9, .ref a10, .ref a11, .ref a12])), (a9, .inl (cI, 128, .inl TB)), (a10, .inl (cI, 4, .inl (st4 b 0 (cBox 0 wh (ld4 b 0))))), (a11, .inl (cI, 4, .inl (st4 d 0 (cBox 0 wh (ld4 b 0)))))]) A) ([.ref h0, .int (nI wh), .int (nI 0)] : List Value).toArray s 0 0 (A)) (F0 m 34 ls []) := by
            intro fu
            induction fu with
              | zero => intro j hij hfj; exact absurd hfj (by omega)
              | succ fu ih =>
                intro j hij hfj H locs hP hD hS ls hl
                rcases j with _ | j
                · have hv : nibR b pl (4 - 0) < 16 := nibR_lt b pl
                  refine lv_iload hx hb dX1_through_34 (lv_at hl 5 rfl) ?_
                  refine lv_if_lt (tgt := 63) hx hb dX1_through_36 (by decide) (fun c36 => ?_) (fun c36 => absurd c36 (by decide))
                  refine lv_iload_n hx hb dX1_through_63 rfl (lv_at hl 2 rfl) ?_
                  refine wk_eq0N (tgt := 77) hx hb (a := 0) (by decide) dX1_through_64 (by decide) (fun c64 => ?_) (fun c64 => absurd c64 (fun h => h rfl))
                  refine lv_aload_n hx hb dX1_through_77 rfl (lv_at hl 0 rfl) ?_
                  refine va_get (D := D) (ci := 1) (v := .ref a9) (C := RX1) (T := TX1) (N := 13) hx hb hts hinX1 hown hK hP 0 rfl rfl 9 (by decide) (hts (.fieldLink RX1 25 "SlicedCipherModel" "rows" "[I") (by decide +kernel)) (fun _ h9 => h9) rfl dX1_through_78 ?_
                  refine lv_bipush (v := nI 16) hx hb dX1_through_81 (by decide) ?_
                  refine lv_iload_n hx hb dX1_through_83 rfl (lv_at hl 1 rfl) ?_
                  refine wk_imulN hx hb (a := 16) (b := wh) dX1_through_84 ?_
                  refine lv_iload hx hb dX1_through_85 (lv_at hl 4 rfl) ?_
                  refine wk_iaddN hx hb (a := 16 * wh) (b := nibR b pl (4 - 0)) dX1_through_87 ?_
                  refine wk_iald hx hb hK hP 1 0 rfl rfl (k := (16 * wh) + (nibR b pl (4 - 0))) (by omega) (by decide) dX1_through_88 ?_
                  refine wk_i (y := boxV 0 wh (nibR b pl 4)) rfl ?_
                  refine lv_istore (lv' := [(5, .int (boxV 0 wh (nibR b pl 4))), (0, .ref h0), (1, .int (nI wh)), (2, .int (nI 0)), (3, .int (nI pl)), (4, .int (nI (nibR b pl (4 - 0))))]) hx hb dX1_through_89 hl (by decide) rfl (fun ls hl => ?_)
                  refine lv_iconst (v := nI 0) hx hb dX1_through_91 (by decide) ?_
                  refine lv_istore (lv' := [(6, .int (nI 0)), (5, .int (boxV 0 wh (nibR b pl 4))), (0, .ref h0), (1, .int (nI wh)), (2, .int (nI 0)), (3, .int (nI pl)), (4, .int (nI (nibR b pl (4 - 0))))]) hx hb dX1_through_92 hl (by decide) rfl (fun ls hl => ?_)
                  exact lpM 5 0 (by omega) (by omega) _ _ hP hD hS ls (lv_sub hl [2, 3, 4, 5, 1, 0] rfl)
                · rw [dec1 j] at hl
                  refine lv_iload hx hb dX1_through_34 (lv_at hl 5 rfl) ?_
                  refine lv_if_lt (tgt := 63) hx hb dX1_through_36 (by decide) (fun c36 => absurd c36 (nI_pos (by omega))) (fun c36 => ?_)
                  refine lv_iconst (v := nI 2) hx hb dX1_through_39 (by decide) ?_
                  refine lv_iload hx hb dX1_through_40 (lv_at hl 4 rfl) ?_
                  refine wk_imulN hx hb (a := 2) (b := nibR b pl (4 - (j + 1))) dX1_through_42 ?_
                  refine lv_aload_n hx hb dX1_through_43 rfl (lv_at hl 0 rfl) ?_
                  refine va_get (D := D) (ci := 1) (v := .ref a10) (C := RX1) (T := TX1) (N := 13) hx hb hts hinX1 hown hK hP 0 rfl rfl 10 (by decide) (hts (.fieldLink RX1 28 "SlicedCipherModel" "block" "[I") (by decide +kernel)) (fun _ h9 => h9) rfl dX1_through_44 ?_
                  refine lv_iload hx hb dX1_through_47 (lv_at hl 5 rfl) ?_
                  refine wk_iald hx hb hK hP 2 0 rfl rfl (k := j) (by omega) (by decide) dX1_through_49 ?_
                  refine lv_iload_n hx hb dX1_through_50 rfl (lv_at hl 3 rfl) ?_
                  refine lv_ishr hx hb dX1_through_51 ?_
                  refine lv_iconst (v := nI 1) hx hb dX1_through_52 (by decide) ?_
                  refine lv_iand hx hb dX1_through_53 ?_
                  refine wk_i (y := nI (bN (b j) pl)) (sh1 _ (by omega)) ?_
                  refine wk_iaddN hx hb (a := 2 * (nibR b pl (4 - (j + 1)))) (b := bN (b j) pl) dX1_through_54 ?_
                  refine lv_istore (lv' := [(4, .int (nI ((2 * (nibR b pl (4 - (j + 1)))) + (bN (b j) pl)))), (0, .ref h0), (1, .int (nI wh)), (2, .int (nI 0)), (3, .int (nI pl)), (5, .int (nI j))]) hx hb dX1_through_55 hl (by decide) rfl (fun ls hl => ?_)
                  refine lv_iinc (v := nI j + Int32.ofInt (-1)) (lv' := [(5, .int (nI j + Int32.ofInt (-1))), (4, .int (nI ((2 * (nibR b pl (4 - (j + 1)))) + (bN (b j) pl)))), (0, .ref h0), (1, .int (nI wh)), (2, .int (nI 0)), (3, .int (nI pl))]) hx hb dX1_through_57 hl (k := 5) rfl rfl (by decide) rfl (fun ls hl => ?_)
                  refine lv_goto (tgt := 34) hx hb dX1_through_60 (by decide) ?_
                  exact ih j (by omega) (by omega) _ _ hP hD hS ls (by rw [nibR_at b pl (by omega)]; exact lv_sub hl [2, 3, 4, 5, 1, 0] rfl)
          refine lv_iconst (v := nI 0) hx hb dX1_through_28 (by decide) ?_
          refine lv_istore (lv' := [(4, .int (nI 0)), (0, .ref h0), (1, .int (nI wh)), (2, .int (nI 0)), (3, .int (nI pl))]) hx hb dX1_through_29 hl (by decide) rfl (fun ls hl => ?_)
          refine lv_iconst (v := nI 3) hx hb dX1_through_31 (by decide) ?_
          refine lv_istore (lv' := [(5, .int (nI 3)), (4, .int (nI 0)), (0, .ref h0), (1, .int (nI wh)), (2, .int (nI 0)), (3, .int (nI pl))]) hx hb dX1_through_32 hl (by decide) rfl (fun ls hl => ?_)
          exact lpN 5 4 (by omega) (by omega) _ _ hP hD hS ls (lv_sub hl [2, 3, 4, 5, 1, 0] rfl)
  have lpA : ∀ (fu : Nat) (k : Nat), k ≤ 4 → 4 + 1 ≤ k + fu → ∀ (H : Heap) (locs : List Loc), va_P D vwCl [(h0, .inr (1, [.int th, .ref a1, .int by0, .int rd, .ref a4, .ref a5, .ref a6, .ref a7, .int zz, .ref a9, .ref a10, .ref a11, .ref a12])), (a9, .inl (cI, 128, .inl TB)), (a10, .inl (cI, 4, .inl b)), (a11, .inl (cI, 4, .inl (cp0 d k)))] H → va_D A [(h0, .inr (1, [.int th, .ref a1, .int by0, .int rd, .ref a4, .ref a5, .ref a6, .ref a7, .int zz, .ref a9, .ref a10, .ref a11, .ref a12])), (a9, .inl (cI, 128, .inl TB)), (a10, .inl (cI, 4, .inl b)), (a11, .inl (cI, 4, .inl (cp0 d k)))] → va_S A s.heap H locs → ∀ (ls : Array Slot), lv_has ls 7 [(0, .ref h0), (1, .int (nI wh)), (2, .int (nI 0)), (3, .int (nI k))] → W p l e ((headSpec wsX1_through ({ frames := 1, cells := 0, slots := 0, locals := 23 })).room) s m ([.ref h0, .int (nI wh), .int (nI 0)] : List Value).toArray below meth c H locs 0 0 (MQ below (va_Qv (fun _ : Unit => True) (fun _ => BW D [(cI, .int)] A [(h0, .inr (1, [.int th, .ref a1, .int by0, .int rd, .ref a4, .ref a5, .ref a6, .ref a7, .int zz, .ref a9, .ref a10, .ref a11, .ref a12])), (a9, .inl (cI, 128, .inl TB)), (a10, .inl (cI, 4, .inl (st4 b 0 (cBox 0 wh (ld4 b 0))))), (a11, .inl (cI, 4, .inl (st4 d 0 (cBox 0 wh (ld4 b 0)))))]) A) ([.ref h0, .int (nI wh), .int (nI 0)] : List Value).toArray s 0 0 (A)) (F0 m 2 ls []) := by
    intro fu
    induction fu with
      | zero => intro k hik hfk; exact absurd hfk (by omega)
      | succ fu ih =>
        intro k hik hfk H locs hP hD hS ls hl
        refine lv_iload_n hx hb dX1_through_2 rfl (lv_at hl 3 rfl) ?_
        refine lv_iconst (v := nI 4) hx hb dX1_through_3 (by decide) ?_
        refine wk_geN (tgt := 20) hx hb (a := k) (b := 4) (by omega) (by decide) dX1_through_4 (by decide) (fun c4 => ?_) (fun c4 => ?_)
        · obtain rfl : k = 4 := by omega
          rw [cp0_4] at hP hD
          have hP : va_P D vwCl [(h0, .inr (1, [.int th, .ref a1, .int by0, .int rd, .ref a4, .ref a5, .ref a6, .ref a7, .int zz, .ref a9, .ref a10, .ref a11, .ref a12])), (a9, .inl (cI, 128, .inl TB)), (a10, .inl (cI, 4, .inl b)), (a11, .inl (cI, 4, .inl (st4 d 0 (mQ 0 wh b 0))))] H := hP
          have hD : va_D A [(h0, .inr (1, [.int th, .ref a1, .int by0, .int rd, .ref a4, .ref a5, .ref a6, .ref a7, .int zz, .ref a9, .ref a10, .ref a11, .ref a12])), (a9, .inl (cI, 128, .inl TB)), (a10, .inl (cI, 4, .inl b)), (a11, .inl (cI, 4, .inl (st4 d 0 (mQ 0 wh b 0))))] := hD
          refine lv_iconst (v := nI 0) hx hb dX1_through_20 (by decide) ?_
          refine lv_istore_n (lv' := [(3, .int (nI 0)), (0, .ref h0), (1, .int (nI wh)), (2, .int (nI 0))]) hx hb dX1_through_21 rfl hl (by decide) rfl (fun ls hl => ?_)
          exact lpP 33 0 (by omega) (by omega) _ _ hP hD hS ls (lv_sub hl [1, 2, 3, 0] rfl)
        · refine lv_aload_n hx hb dX1_through_7 rfl (lv_at hl 0 rfl) ?_
          refine va_get (D := D) (ci := 1) (v := .ref a11) (C := RX1) (T := TX1) (N := 13) hx hb hts hinX1 hown hK hP 0 rfl rfl 11 (by decide) (hts (.fieldLink RX1 31 "SlicedCipherModel" "made" "[I") (by decide +kernel)) (fun _ h9 => h9) rfl dX1_through_8 ?_
          refine lv_iload_n hx hb dX1_through_11 rfl (lv_at hl 3 rfl) ?_
          refine lv_iconst (v := nI 0) hx hb dX1_through_12 (by decide) ?_
          refine wk_iast hx hb hK hP hD hS 3 0 rfl rfl (k := k) (x := nI 0) (by omega) (by decide) dX1_through_13 (fun H locs hP hD hS => ?_)
          have hP : va_P D vwCl [(h0, .inr (1, [.int th, .ref a1, .int by0, .int rd, .ref a4, .ref a5, .ref a6, .ref a7, .int zz, .ref a9, .ref a10, .ref a11, .ref a12])), (a9, .inl (cI, 128, .inl TB)), (a10, .inl (cI, 4, .inl b)), (a11, .inl (cI, 4, .inl (upd (cp0 d k) k (nI 0))))] H := hP
          have hD : va_D A [(h0, .inr (1, [.int th, .ref a1, .int by0, .int rd, .ref a4, .ref a5, .ref a6, .ref a7, .int zz, .ref a9, .ref a10, .ref a11, .ref a12])), (a9, .inl (cI, 128, .inl TB)), (a10, .inl (cI, 4, .inl b)), (a11, .inl (cI, 4, .inl (upd (cp0 d k) k (nI 0))))] := hD
          refine lv_iinc (v := nI (k + 1)) (lv' := [(3, .int (nI (k + 1))), (0, .ref h0), (1, .int (nI wh)), (2, .int (nI 0))]) hx hb dX1_through_14 hl (k := 3) rfl (wk_inc k (by decide)) (by decide) rfl (fun ls hl => ?_)
          refine lv_goto (tgt := 2) hx hb dX1_through_17 (by decide) ?_
          exact ih (k + 1) (by omega) (by omega) _ _ hP hD hS ls (lv_sub hl [1, 2, 3, 0] rfl)
  refine lv_iconst (v := nI 0) hx hb dX1_through_0 (by decide) ?_
  refine lv_istore_n (lv' := [(3, .int (nI 0)), (0, .ref h0), (1, .int (nI wh)), (2, .int (nI 0))]) hx hb dX1_through_1 rfl hl (by decide) rfl (fun ls hl => ?_)
  exact lpA 5 0 (by omega) (by omega) _ _ hP hD hS ls (lv_sub hl [1, 2, 3, 0] rfl)
set_option maxHeartbeats 4000000 in
set_option maxRecDepth 100000 in
theorem c_X1_through1 (l : Launch) (D : va_G) (cI : ClassId) (sz : Nat) (h0 a1 a4 a5 a6 a7 a9 a10 a11 a12 : Nat) (th by0 rd zz : Int32) (wh : Nat) (b d : Nat → Int32) (h1 : wh < 8) : Met l yX1_through wsX1_through ({ frames := 1, cells := 0, slots := 0, locals := 23 }) (va_Pc [.ref h0, .int (nI wh), .int (nI 1)] (fun U => PW D [(cI, .int)] [(h0, .inr (1, [.int th, .ref a1, .int by0, .int rd, .ref a4, .ref a5, .ref a6, .ref a7, .int zz, .ref a9, .ref a10, .ref a11, .ref a12])), (a9, .inl (cI, 128, .inl TB)), (a10, .inl (cI, 4, .inl b)), (a11, .inl (cI, 4, .inl d))] sz U ∧ True)) (va_Qv (fun _ : Unit => True) (fun _ => BW D [(cI, .int)] (va_A [(h0, .inr (1, [.int th, .ref a1, .int by0, .int rd, .ref a4, .ref a5, .ref a6, .ref a7, .int zz, .ref a9, .ref a10, .ref a11, .ref a12])), (a9, .inl (cI, 128, .inl TB)), (a10, .inl (cI, 4, .inl b)), (a11, .inl (cI, 4, .inl d))] sz) [(h0, .inr (1, [.int th, .ref a1, .int by0, .int rd, .ref a4, .ref a5, .ref a6, .ref a7, .int zz, .ref a9, .ref a10, .ref a11, .ref a12])), (a9, .inl (cI, 128, .inl TB)), (a10, .inl (cI, 4, .inl (st4 b 0 (cBox 1 wh (ld4 b 0))))), (a11, .inl (cI, 4, .inl (st4 d 0 (cBox 1 wh (ld4 b 0)))))]) (va_A [(h0, .inr (1, [.int th, .ref a1, .int by0, .int rd, .ref a4, .ref a5, .ref a6, .ref a7, .int zz, .ref a9, .ref a10, .ref a11, .ref a12])), (a9, .inl (cI, 128, .inl TB)), (a10, .inl (cI, 4, .inl b)), (a11, .inl (cI, 4, .inl d))] sz)) 0 0 (va_A [(h0, .inr (1, [.int th, .ref a1, .int by0, .int rd, .ref a4, .ref a5, .ref a6, .ref a7, .int zz, .ref a9, .ref a10, .ref a11, .ref a12])), (a9, .inl (cI, 128, .inl TB)), (a10, .inl (cI, 4, .inl b)), (a11, .inl (cI, 4, .inl d))] sz) := by
  refine Met.ofW (cc := cX1_through) (maxL := 7) (ret := none) (by decide) rfl ?_
  intro p e s m args below meth c s₁ B hml hv
  obtain ⟨rfl, ⟨hsz, hP, hK, hD0⟩, -⟩ := hv
  have hx := B.exec
  have hb := B.bytes
  have hr := B.returns
  have hts := atoms_spec (ws := wsX1_through) B.pre
  have hown : s.vm.findClass RX1 = some m.cls := findClass_of_methodNamed B.named
  have hlocks := B.notSynchronized
  subst hsz
  have hD := hD0.self (sz := s.heap.size)
  have hinX1 := in_X1_through
  generalize hAe : va_A [(h0, .inr (1, [.int th, .ref a1, .int by0, .int rd, .ref a4, .ref a5, .ref a6, .ref a7, .int zz, .ref a9, .ref a10, .ref a11, .ref a12])), (a9, .inl (cI, 128, .inl TB)), (a10, .inl (cI, 4, .inl b)), (a11, .inl (cI, 4, .inl d))] s.heap.size = A at hD ⊢
  have hA : ∀ q : Nat, s.heap.size ≤ q → A q := fun q h => by rw [← hAe]; exact Or.inr h
  have hS : va_S A s.heap s.heap [] := va_S.rf
  have hl := lv_entry ([.ref h0, .int (nI wh), .int (nI 1)]) (n := 7) (Nat.le_of_ble_eq_true rfl)
  rw [lg_entry_eq]
  generalize (lg_sl ([.ref h0, .int (nI wh), .int (nI 1)]) ++ List.replicate (7 - (lg_sl ([.ref h0, .int (nI wh), .int (nI 1)])).length) Slot.unset).toArray = ls at hl ⊢
  have hl : lv_has ls 7 [(0, .ref h0), (1, .int (nI wh)), (2, .int (nI 1))] := hl
  have lpE : ∀ (fu : Nat) (k : Nat), k ≤ 4 → 4 + 1 ≤ k + fu → ∀ (H : Heap) (locs : List Loc), va_P D vwCl [(h0, .inr (1, [.int th, .ref a1, .int by0, .int rd, .ref a4, .ref a5, .ref a6, .ref a7, .int zz, .ref a9, .ref a10, .ref a11, .ref a12])), (a9, .inl (cI, 128, .inl TB)), (a10, .inl (cI, 4, .inl (cpZ b (st4 d 0 (cBox 1 wh (ld4 b 0))) k))), (a11, .inl (cI, 4, .inl (st4 d 0 (cBox 1 wh (ld4 b 0)))))] H → va_D A [(h0, .inr (1, [.int th, .ref a1, .int by0, .int rd, .ref a4, .ref a5, .ref a6, .ref a7, .int zz, .ref a9, .ref a10, .ref a11, .ref a12])), (a9, .inl (cI, 128, .inl TB)), (a10, .inl (cI, 4, .inl (cpZ b (st4 d 0 (cBox 1 wh (ld4 b 0))) k))), (a11, .inl (cI, 4, .inl (st4 d 0 (cBox 1 wh (ld4 b 0)))))] → va_S A s.heap H locs → ∀ (ls : Array Slot), lv_has ls 7 [(0, .ref h0), (1, .int (nI wh)), (2, .int (nI 1)), (3, .int (nI k))] → W p l e ((headSpec wsX1_through ({ frames := 1, cells := 0, slots := 0, locals := 23 })).room) s m ([.ref h0, .int (nI wh), .int (nI 1)] : List Value).toArray below meth c H locs 0 0 (MQ below (va_Qv (fun _ : Unit => True) (fun _ => BW D [(cI, .int)] A [(h0, .inr (1, [.int th, .ref a1, .int by0, .int rd, .ref a4, .ref a5, .ref a6, .ref a7, .int zz, .ref a9, .ref a10, .ref a11, .ref a12])), (a9, .inl (cI, 128, .inl TB)), (a10, .inl (cI, 4, .inl (st4 b 0 (cBox 1 wh (ld4 b 0))))), (a11, .inl (cI, 4, .inl (st4 d 0 (cBox 1 wh (ld4 b 0)))))]) A) ([.ref h0, .int (nI wh), .int (nI 1)] : List Value).toArray s 0 0 (A)) (F0 m 138 ls []) := by
    intro fu
    induction fu with
      | zero => intro k hik hfk; exact absurd hfk (by omega)
      | succ fu ih =>
        intro k hik hfk H locs hP hD hS ls hl
        refine lv_iload_n hx hb dX1_through_138 rfl (lv_at hl 3 rfl) ?_
        refine lv_iconst (v := nI 4) hx hb dX1_through_139 (by decide) ?_
        refine wk_geN (tgt := 161) hx hb (a := k) (b := 4) (by omega) (by decide) dX1_through_140 (by decide) (fun c140 => ?_) (fun c140 => ?_)
        · obtain rfl : k = 4 := by omega
          rw [cpZ_4, ld4_st4] at hP hD
          exact W.vret hx hb hr (fun t ht hW => ⟨⟨(), rfl, trivial, by rw [ht]; exact hP, va_K.moved hW.alike hK, hD⟩, hS.F ht⟩) hS.2.2 dX1_through_161
        · refine lv_aload_n hx hb dX1_through_143 rfl (lv_at hl 0 rfl) ?_
          refine va_get (D := D) (ci := 1) (v := .ref a10) (C := RX1) (T := TX1) (N := 13) hx hb hts hinX1 hown hK hP 0 rfl rfl 10 (by decide) (hts (.fieldLink RX1 28 "SlicedCipherModel" "block" "[I") (by decide +kernel)) (fun _ h9 => h9) rfl dX1_through_144 ?_
          refine lv_iload_n hx hb dX1_through_147 rfl (lv_at hl 3 rfl) ?_
          refine lv_aload_n hx hb dX1_through_148 rfl (lv_at hl 0 rfl) ?_
          refine va_get (D := D) (ci := 1) (v := .ref a11) (C := RX1) (T := TX1) (N := 13) hx hb hts hinX1 hown hK hP 0 rfl rfl 11 (by decide) (hts (.fieldLink RX1 31 "SlicedCipherModel" "made" "[I") (by decide +kernel)) (fun _ h9 => h9) rfl dX1_through_149 ?_
          refine lv_iload_n hx hb dX1_through_152 rfl (lv_at hl 3 rfl) ?_
          refine wk_iald hx hb hK hP 3 0 rfl rfl (k := k) (by omega) (by decide) dX1_through_153 ?_
          refine wk_iast hx hb hK hP hD hS 2 0 rfl rfl (k := k) (x := (st4 d 0 (cBox 1 wh (ld4 b 0))) k) (by omega) (by decide) dX1_through_154 (fun H locs hP hD hS => ?_)
          have hP : va_P D vwCl [(h0, .inr (1, [.int th, .ref a1, .int by0, .int rd, .ref a4, .ref a5, .ref a6, .ref a7, .int zz, .ref a9, .ref a10, .ref a11, .ref a12])), (a9, .inl (cI, 128, .inl TB)), (a10, .inl (cI, 4, .inl (upd (cpZ b (st4 d 0 (cBox 1 wh (ld4 b 0))) k) k ((st4 d 0 (cBox 1 wh (ld4 b 0))) k)))), (a11, .inl (cI, 4, .inl (st4 d 0 (cBox 1 wh (ld4 b 0)))))] H := hP
          have hD : va_D A [(h0, .inr (1, [.int th, .ref a1, .int by0, .int rd, .ref a4, .ref a5, .ref a6, .ref a7, .int zz, .ref a9, .ref a10, .ref a11, .ref a12])), (a9, .inl (cI, 128, .inl TB)), (a10, .inl (cI, 4, .inl (upd (cpZ b (st4 d 0 (cBox 1 wh (ld4 b 0))) k) k ((st4 d 0 (cBox 1 wh (ld4 b 0))) k)))), (a11, .inl (cI, 4, .inl (st4 d 0 (cBox 1 wh (ld4 b 0)))))] := hD
          refine lv_iinc (v := nI (k + 1)) (lv' := [(3, .int (nI (k + 1))), (0, .ref h0), (1, .int (nI wh)), (2, .int (nI 1))]) hx hb dX1_through_155 hl (k := 3) rfl (wk_inc k (by decide)) (by decide) rfl (fun ls hl => ?_)
          refine lv_goto (tgt := 138) hx hb dX1_through_158 (by decide) ?_
          exact ih (k + 1) (by omega) (by omega) _ _ hP hD hS ls (lv_sub hl [1, 2, 3, 0] rfl)
  have lpP : ∀ (fu : Nat) (pl : Nat), pl ≤ 32 → 33 ≤ pl + fu → ∀ (H : Heap) (locs : List Loc), va_P D vwCl [(h0, .inr (1, [.int th, .ref a1, .int by0, .int rd, .ref a4, .ref a5, .ref a6, .ref a7, .int zz, .ref a9, .ref a10, .ref a11, .ref a12])), (a9, .inl (cI, 128, .inl TB)), (a10, .inl (cI, 4, .inl b)), (a11, .inl (cI, 4, .inl (st4 d 0 (mQ 1 wh b pl))))] H → va_D A [(h0, .inr (1, [.int th, .ref a1, .int by0, .int rd, .ref a4, .ref a5, .ref a6, .ref a7, .int zz, .ref a9, .ref a10, .ref a11, .ref a12])), (a9, .inl (cI, 128, .inl TB)), (a10, .inl (cI, 4, .inl b)), (a11, .inl (cI, 4, .inl (st4 d 0 (mQ 1 wh b pl))))] → va_S A s.heap H locs → ∀ (ls : Array Slot), lv_has ls 7 [(0, .ref h0), (1, .int (nI wh)), (2, .int (nI 1)), (3, .int (nI pl))] → W p l e ((headSpec wsX1_through ({ frames := 1, cells := 0, slots := 0, locals := 23 })).room) s m ([.ref h0, .int (nI wh), .int (nI 1)] : List Value).toArray below meth c H locs 0 0 (MQ below (va_Qv (fun _ : Unit => True) (fun _ => BW D [(cI, .int)] A [(h0, .inr (1, [.int th, .ref a1, .int by0, .int rd, .ref a4, .ref a5, .ref a6, .ref a7, .int zz, .ref a9, .ref a10, .ref a11, .ref a12])), (a9, .inl (cI, 128, .inl TB)), (a10, .inl (cI, 4, .inl (st4 b 0 (cBox 1 wh (ld4 b 0))))), (a11, .inl (cI, 4, .inl (st4 d 0 (cBox 1 wh (ld4 b 0)))))]) A) ([.ref h0, .int (nI wh), .int (nI 1)] : List Value).toArray s 0 0 (A)) (F0 m 22 ls []) := by
    intro fu
    induction fu with
      | zero => intro pl hip hfp; exact absurd hfp (by omega)
      | succ fu ih =>
        intro pl hip hfp H locs hP hD hS ls hl
        refine lv_iload_n hx hb dX1_through_22 rfl (lv_at hl 3 rfl) ?_
        refine lv_bipush (v := nI 32) hx hb dX1_through_23 (by decide) ?_
        refine wk_geN (tgt := 136) hx hb (a := pl) (b := 32) (by omega) (by decide) dX1_through_25 (by decide) (fun c25 => ?_) (fun c25 => ?_)
        · obtain rfl : pl = 32 := by omega
          rw [show mQ 1 wh b 32 = cBox 1 wh (ld4 b 0) from box_eq (by decide) h1 b] at hP hD
          refine lv_iconst (v := nI 0) hx hb dX1_through_136 (by decide) ?_
          refine lv_istore_n (lv' := [(3, .int (nI 0)), (0, .ref h0), (1, .int (nI wh)), (2, .int (nI 1))]) hx hb dX1_through_137 rfl hl (by decide) rfl (fun ls hl => ?_)
          exact lpE 5 0 (by omega) (by omega) _ _ hP hD hS ls (lv_sub hl [1, 2, 3, 0] rfl)
        · have ihP := ih
          have lpM : ∀ (fu : Nat) (k : Nat), k ≤ 4 → 4 + 1 ≤ k + fu → ∀ (H : Heap) (locs : List Loc), va_P D vwCl [(h0, .inr (1, [.int th, .ref a1, .int by0, .int rd, .ref a4, .ref a5, .ref a6, .ref a7, .int zz, .ref a9, .ref a10, .ref a11, .ref a12])), (a9, .inl (cI, 128, .inl TB)), (a10, .inl (cI, 4, .inl b)), (a11, .inl (cI, 4, .inl (inF (st4 d 0 (mQ 1 wh b pl)) (boxV 1 wh (nibR b pl 4)) pl k)))] H → va_D A [(h0, .inr (1, [.int th, .ref a1, .int by0, .int rd, .ref a4, .ref a5, .ref a6, .ref a7, .int zz, .ref a9, .ref a10, .ref a11, .ref a12])), (a9, .inl (cI, 128, .inl TB)), (a10, .inl (cI, 4, .inl b)), (a11, .inl (cI, 4, .inl (inF (st4 d 0 (mQ 1 wh b pl)) (boxV 1 wh (nibR b pl 4)) pl k)))] → va_S A s.heap H locs → ∀ (ls : Array Slot), lv_has ls 7 [(0, .ref h0), (1, .int (nI wh)), (2, .int (nI 1)), (3, .int (nI pl)), (5, .int (boxV 1 wh (nibR b pl 4))), (6, .int (nI k))] → W p l e ((headSpec wsX1_through ({ frames := 1, cells := 0, slots := 0, locals := 23 })).room) s m ([.ref h0, .int (nI wh), .int (nI 1)] : List Value).toArray below meth c H locs 0 0 (MQ below (va_Qv (fun _ : Unit => True) (fun _ => BW D [(cI, .int)] A [(h0, .inr (1, [.int th, .ref a1, .int by0, .int rd, .ref a4, .ref a5, .ref a6, .ref a7, .int zz, .ref a9, .ref a10, .ref a11, .ref a12])), (a9, .inl (cI, 128, .inl TB)), (a10, .inl (cI, 4, .inl (st4 b 0 (cBox 1 wh (ld4 b 0))))), (a11, .inl (cI, 4, .inl (st4 d 0 (cBox 1 wh (ld4 b 0)))))]) A) ([.ref h0, .int (nI wh), .int (nI 1)] : List Value).toArray s 0 0 (A)) (F0 m 94 ls []) := by
            intro fu
            induction fu with
              | zero => intro k hik hfk; exact absurd hfk (by omega)
              | succ fu ih =>
                intro k hik hfk H locs hP hD hS ls hl
                refine lv_iload hx hb dX1_through_94 (lv_at hl 5 rfl) ?_
                refine lv_iconst (v := nI 4) hx hb dX1_through_96 (by decide) ?_
                refine wk_geN (tgt := 130) hx hb (a := k) (b := 4) (by omega) (by decide) dX1_through_97 (by decide) (fun c97 => ?_) (fun c97 => ?_)
                · obtain rfl : k = 4 := by omega
                  rw [mQ_step] at hP hD
                  refine lv_iinc (v := nI (pl + 1)) (lv' := [(3, .int (nI (pl + 1))), (0, .ref h0), (1, .int (nI wh)), (2, .int (nI 1)), (5, .int (boxV 1 wh (nibR b pl 4))), (6, .int (nI 4))]) hx hb dX1_through_130 hl (k := 3) rfl (wk_inc pl (by decide)) (by decide) rfl (fun ls hl => ?_)
                  refine lv_goto (tgt := 22) hx hb dX1_through_133 (by decide) ?_
                  exact ihP (pl + 1) (by omega) (by omega) _ _ hP hD hS ls (lv_sub hl [1, 2, 3, 0] rfl)
                · refine lv_aload_n hx hb dX1_through_100 rfl (lv_at hl 0 rfl) ?_
                  refine va_get (D := D) (ci := 1) (v := .ref a11) (C := RX1) (T := TX1) (N := 13) hx hb hts hinX1 hown hK hP 0 rfl rfl 11 (by decide) (hts (.fieldLink RX1 31 "SlicedCipherModel" "made" "[I") (by decide +kernel)) (fun _ h9 => h9) rfl dX1_through_101 ?_
                  refine lv_iload hx hb dX1_through_104 (lv_at hl 5 rfl) ?_
                  refine lv_aload_n hx hb dX1_through_106 rfl (lv_at hl 0 rfl) ?_
                  refine va_get (D := D) (ci := 1) (v := .ref a11) (C := RX1) (T := TX1) (N := 13) hx hb hts hinX1 hown hK hP 0 rfl rfl 11 (by decide) (hts (.fieldLink RX1 31 "SlicedCipherModel" "made" "[I") (by decide +kernel)) (fun _ h9 => h9) rfl dX1_through_107 ?_
                  refine lv_iload hx hb dX1_through_110 (lv_at hl 5 rfl) ?_
                  refine wk_iald hx hb hK hP 3 0 rfl rfl (k := k) (by omega) (by decide) dX1_through_112 ?_
                  refine lv_iload hx hb dX1_through_113 (lv_at hl 4 rfl) ?_
                  refine lv_iload hx hb dX1_through_115 (lv_at hl 5 rfl) ?_
                  refine lv_ishr hx hb dX1_through_117 ?_
                  refine lv_iconst (v := nI 1) hx hb dX1_through_118 (by decide) ?_
                  refine lv_iand hx hb dX1_through_119 ?_
                  refine lv_iload_n hx hb dX1_through_120 rfl (lv_at hl 3 rfl) ?_
                  refine lv_ishl hx hb dX1_through_121 ?_
                  refine lv_ior hx hb dX1_through_122 ?_
                  refine wk_iast hx hb hK hP hD hS 3 0 rfl rfl (k := k) (x := ((inF (st4 d 0 (mQ 1 wh b pl)) (boxV 1 wh (nibR b pl 4)) pl k) k) ||| ((((boxV 1 wh (nibR b pl 4)) >>> ((nI k) &&& 31)) &&& (nI 1)) <<< ((nI pl) &&& 31))) (by omega) (by decide) dX1_through_123 (fun H locs hP hD hS => ?_)
                  have hP : va_P D vwCl [(h0, .inr (1, [.int th, .ref a1, .int by0, .int rd, .ref a4, .ref a5, .ref a6, .ref a7, .int zz, .ref a9, .ref a10, .ref a11, .ref a12])), (a9, .inl (cI, 128, .inl TB)), (a10, .inl (cI, 4, .inl b)), (a11, .inl (cI, 4, .inl (upd (inF (st4 d 0 (mQ 1 wh b pl)) (boxV 1 wh (nibR b pl 4)) pl k) k (((inF (st4 d 0 (mQ 1 wh b pl)) (boxV 1 wh (nibR b pl 4)) pl k) k) ||| ((((boxV 1 wh (nibR b pl 4)) >>> ((nI k) &&& 31)) &&& (nI 1)) <<< ((nI pl) &&& 31))))))] H := hP
                  have hD : va_D A [(h0, .inr (1, [.int th, .ref a1, .int by0, .int rd, .ref a4, .ref a5, .ref a6, .ref a7, .int zz, .ref a9, .ref a10, .ref a11, .ref a12])), (a9, .inl (cI, 128, .inl TB)), (a10, .inl (cI, 4, .inl b)), (a11, .inl (cI, 4, .inl (upd (inF (st4 d 0 (mQ 1 wh b pl)) (boxV 1 wh (nibR b pl 4)) pl k) k (((inF (st4 d 0 (mQ 1 wh b pl)) (boxV 1 wh (nibR b pl 4)) pl k) k) ||| ((((boxV 1 wh (nibR b pl 4)) >>> ((nI k) &&& 31)) &&& (nI 1)) <<< ((nI pl) &&& 31))))))] := hD
                  refine lv_iinc (v := nI (k + 1)) (lv' := [(6, .int (nI (k + 1))), (0, .ref h0), (1, .int (nI wh)), (2, .int (nI 1)), (3, .int (nI pl)), (5, .int (boxV 1 wh (nibR b pl 4)))]) hx hb dX1_through_124 hl (k := 5) rfl (wk_inc k (by decide)) (by decide) rfl (fun ls hl => ?_)
                  refine lv_goto (tgt := 94) hx hb dX1_through_127 (by decide) ?_
                  exact ih (k + 1) (by omega) (by omega) _ _ hP hD hS ls (lv_sub hl [1, 2, 3, 4, 5, 0] rfl)
          have lpN : ∀ (fu : Nat) (j : Nat), j ≤ 4 → j + 1 ≤ fu → ∀ (H : Heap) (locs : List Loc), va_P D vwCl [(h0, .inr (1, [.int th, .ref a1, .int by0, .int rd, .ref a4, .ref a5, .ref a6, .ref a7, .int zz, .ref a9, .ref a10, .ref a11, .ref a12])), (a9, .inl (cI, 128, .inl TB)), (a10, .inl (cI, 4, .inl b)), (a11, .inl (cI, 4, .inl (st4 d 0 (mQ 1 wh b pl))))] H → va_D A [(h0, .inr (1, [.int th, .ref a1, .int by0, .int rd, .ref a4, .ref a5, .ref a6, .ref a7, .int zz, .ref a9, .ref a10, .ref a11, .ref a12])), (a9, .inl (cI, 128, .inl TB)), (a10, .inl (cI, 4, .inl b)), (a11, .inl (cI, 4, .inl (st4 d 0 (mQ 1 wh b pl))))] → va_S A s.heap H locs → ∀ (ls : Array Slot), lv_has ls 7 [(0, .ref h0), (1, .int (nI wh)), (2, .int (nI 1)), (3, .int (nI pl)), (4, .int (nI (nibR b pl (4 - j)))), (5, .int (nI j + Int32.ofInt (-1)))] → W p l e ((headSpec wsX1_through ({ frames := 1, cells := 0, slots := 0, locals := 23 })).room) s m ([.ref h0, .int (nI wh), .int (nI 1)] : List Value).toArray below meth c H locs 0 0 (MQ below (va_Qv (fun _ : Unit => True) (fun _ => BW D [(cI, .int)] A [(h0, .inr (1, [.int th, .ref a1, .int by0, .int rd, .ref a4, .ref a5, .ref a6, .ref a7, .int zz, .ref a9, .ref a10, .ref a11, .ref a12])), (a9, .inl (cI, 128, .inl TB)), (a10, .inl (cI, 4, .inl (st4 b 0 (cBox 1 wh (ld4 b 0))))), (a11, .inl (cI, 4, .inl (st4 d 0 (cBox 1 wh (ld4 b 0)))))]) A) ([.ref h0, .int (nI wh), .int (nI 1)] : List Value).toArray s 0 0 (A)) (F0 m 34 ls []) := by
            intro fu
            induction fu with
              | zero => intro j hij hfj; exact absurd hfj (by omega)
              | succ fu ih =>
                intro j hij hfj H locs hP hD hS ls hl
                rcases j with _ | j
                · have hv : nibR b pl (4 - 0) < 16 := nibR_lt b pl
                  refine lv_iload hx hb dX1_through_34 (lv_at hl 5 rfl) ?_
                  refine lv_if_lt (tgt := 63) hx hb dX1_through_36 (by decide) (fun c36 => ?_) (fun c36 => absurd c36 (by decide))
                  refine lv_iload_n hx hb dX1_through_63 rfl (lv_at hl 2 rfl) ?_
                  refine wk_eq0N (tgt := 77) hx hb (a := 1) (by decide) dX1_through_64 (by decide) (fun c64 => absurd c64 (by decide)) (fun c64 => ?_)
                  refine lv_aload_n hx hb dX1_through_67 rfl (lv_at hl 0 rfl) ?_
                  refine lv_iload_n hx hb dX1_through_68 rfl (lv_at hl 1 rfl) ?_
                  refine lv_iload hx hb dX1_through_69 (lv_at hl 4 rfl) ?_
                  refine wk_Vi (b := h0) (As := [.int (nI wh), .int (nI (nibR b pl (4 - 0)))]) (rest := []) (wc := [(h0, .inr (1, [.int th, .ref a1, .int by0, .int rd, .ref a4, .ref a5, .ref a6, .ref a7, .int zz, .ref a9, .ref a10, .ref a11, .ref a12])), (a9, .inl (cI, 128, .inl TB))]) (ci := 1) (q0 := 0) ⟨hx, hb, hml, hown, hts⟩ (c_X1_back l D cI _ h0 a1 a4 a5 a6 a7 a9 a10 a11 a12 th by0 rd zz wh (nibR b pl (4 - 0)) h1 hv) (cwV 2 hts gX1_through_X1_back rfl rfl rfl (by decide +kernel) ⟨Nat.le_of_ble_eq_true rfl, Nat.le_of_ble_eq_true rfl⟩) (fun _ _ _ _ h => h) (fun _ _ _ => trivial) hK hP hD rfl rfl [0, 1] rfl (by decide) rfl hl.1 rfl (Nat.le_of_ble_eq_true rfl) dX1_through_71 ⟨Nat.zero_le _, Nat.zero_le _⟩ (fun z9 hz9 => ?_)
                  refine wk_i (y := nI (cSrc wh (nI (nibR b pl (4 - 0))) 16)) hz9 ?_
                  refine lv_goto (tgt := 89) hx hb dX1_through_74 (by decide) ?_
                  refine wk_i (y := boxV 1 wh (nibR b pl 4)) rfl ?_
                  refine lv_istore (lv' := [(5, .int (boxV 1 wh (nibR b pl 4))), (0, .ref h0), (1, .int (nI wh)), (2, .int (nI 1)), (3, .int (nI pl)), (4, .int (nI (nibR b pl (4 - 0))))]) hx hb dX1_through_89 hl (by decide) rfl (fun ls hl => ?_)
                  refine lv_iconst (v := nI 0) hx hb dX1_through_91 (by decide) ?_
                  refine lv_istore (lv' := [(6, .int (nI 0)), (5, .int (boxV 1 wh (nibR b pl 4))), (0, .ref h0), (1, .int (nI wh)), (2, .int (nI 1)), (3, .int (nI pl)), (4, .int (nI (nibR b pl (4 - 0))))]) hx hb dX1_through_92 hl (by decide) rfl (fun ls hl => ?_)
                  exact lpM 5 0 (by omega) (by omega) _ _ hP hD hS ls (lv_sub hl [2, 3, 4, 5, 1, 0] rfl)
                · rw [dec1 j] at hl
                  refine lv_iload hx hb dX1_through_34 (lv_at hl 5 rfl) ?_
                  refine lv_if_lt (tgt := 63) hx hb dX1_through_36 (by decide) (fun c36 => absurd c36 (nI_pos (by omega))) (fun c36 => ?_)
                  refine lv_iconst (v := nI 2) hx hb dX1_through_39 (by decide) ?_
                  refine lv_iload hx hb dX1_through_40 (lv_at hl 4 rfl) ?_
                  refine wk_imulN hx hb (a := 2) (b := nibR b pl (4 - (j + 1))) dX1_through_42 ?_
                  refine lv_aload_n hx hb dX1_through_43 rfl (lv_at hl 0 rfl) ?_
                  refine va_get (D := D) (ci := 1) (v := .ref a10) (C := RX1) (T := TX1) (N := 13) hx hb hts hinX1 hown hK hP 0 rfl rfl 10 (by decide) (hts (.fieldLink RX1 28 "SlicedCipherModel" "block" "[I") (by decide +kernel)) (fun _ h9 => h9) rfl dX1_through_44 ?_
                  refine lv_iload hx hb dX1_through_47 (lv_at hl 5 rfl) ?_
                  refine wk_iald hx hb hK hP 2 0 rfl rfl (k := j) (by omega) (by decide) dX1_through_49 ?_
                  refine lv_iload_n hx hb dX1_through_50 rfl (lv_at hl 3 rfl) ?_
                  refine lv_ishr hx hb dX1_through_51 ?_
                  refine lv_iconst (v := nI 1) hx hb dX1_through_52 (by decide) ?_
                  refine lv_iand hx hb dX1_through_53 ?_
                  refine wk_i (y := nI (bN (b j) pl)) (sh1 _ (by omega)) ?_
                  refine wk_iaddN hx hb (a := 2 * (nibR b pl (4 - (j + 1)))) (b := bN (b j) pl) dX1_through_54 ?_
                  refine lv_istore (lv' := [(4, .int (nI ((2 * (nibR b pl (4 - (j + 1)))) + (bN (b j) pl)))), (0, .ref h0), (1, .int (nI wh)), (2, .int (nI 1)), (3, .int (nI pl)), (5, .int (nI j))]) hx hb dX1_through_55 hl (by decide) rfl (fun ls hl => ?_)
                  refine lv_iinc (v := nI j + Int32.ofInt (-1)) (lv' := [(5, .int (nI j + Int32.ofInt (-1))), (4, .int (nI ((2 * (nibR b pl (4 - (j + 1)))) + (bN (b j) pl)))), (0, .ref h0), (1, .int (nI wh)), (2, .int (nI 1)), (3, .int (nI pl))]) hx hb dX1_through_57 hl (k := 5) rfl rfl (by decide) rfl (fun ls hl => ?_)
                  refine lv_goto (tgt := 34) hx hb dX1_through_60 (by decide) ?_
                  exact ih j (by omega) (by omega) _ _ hP hD hS ls (by rw [nibR_at b pl (by omega)]; exact lv_sub hl [2, 3, 4, 5, 1, 0] rfl)
          refine lv_iconst (v := nI 0) hx hb dX1_through_28 (by decide) ?_
          refine lv_istore (lv' := [(4, .int (nI 0)), (0, .ref h0), (1, .int (nI wh)), (2, .int (nI 1)), (3, .int (nI pl))]) hx hb dX1_through_29 hl (by decide) rfl (fun ls hl => ?_)
          refine lv_iconst (v := nI 3) hx hb dX1_through_31 (by decide) ?_
          refine lv_istore (lv' := [(5, .int (nI 3)), (4, .int (nI 0)), (0, .ref h0), (1, .int (nI wh)), (2, .int (nI 1)), (3, .int (nI pl))]) hx hb dX1_through_32 hl (by decide) rfl (fun ls hl => ?_)
          exact lpN 5 4 (by omega) (by omega) _ _ hP hD hS ls (lv_sub hl [2, 3, 4, 5, 1, 0] rfl)
  have lpA : ∀ (fu : Nat) (k : Nat), k ≤ 4 → 4 + 1 ≤ k + fu → ∀ (H : Heap) (locs : List Loc), va_P D vwCl [(h0, .inr (1, [.int th, .ref a1, .int by0, .int rd, .ref a4, .ref a5, .ref a6, .ref a7, .int zz, .ref a9, .ref a10, .ref a11, .ref a12])), (a9, .inl (cI, 128, .inl TB)), (a10, .inl (cI, 4, .inl b)), (a11, .inl (cI, 4, .inl (cp0 d k)))] H → va_D A [(h0, .inr (1, [.int th, .ref a1, .int by0, .int rd, .ref a4, .ref a5, .ref a6, .ref a7, .int zz, .ref a9, .ref a10, .ref a11, .ref a12])), (a9, .inl (cI, 128, .inl TB)), (a10, .inl (cI, 4, .inl b)), (a11, .inl (cI, 4, .inl (cp0 d k)))] → va_S A s.heap H locs → ∀ (ls : Array Slot), lv_has ls 7 [(0, .ref h0), (1, .int (nI wh)), (2, .int (nI 1)), (3, .int (nI k))] → W p l e ((headSpec wsX1_through ({ frames := 1, cells := 0, slots := 0, locals := 23 })).room) s m ([.ref h0, .int (nI wh), .int (nI 1)] : List Value).toArray below meth c H locs 0 0 (MQ below (va_Qv (fun _ : Unit => True) (fun _ => BW D [(cI, .int)] A [(h0, .inr (1, [.int th, .ref a1, .int by0, .int rd, .ref a4, .ref a5, .ref a6, .ref a7, .int zz, .ref a9, .ref a10, .ref a11, .ref a12])), (a9, .inl (cI, 128, .inl TB)), (a10, .inl (cI, 4, .inl (st4 b 0 (cBox 1 wh (ld4 b 0))))), (a11, .inl (cI, 4, .inl (st4 d 0 (cBox 1 wh (ld4 b 0)))))]) A) ([.ref h0, .int (nI wh), .int (nI 1)] : List Value).toArray s 0 0 (A)) (F0 m 2 ls []) := by
    intro fu
    induction fu with
      | zero => intro k hik hfk; exact absurd hfk (by omega)
      | succ fu ih =>
        intro k hik hfk H locs hP hD hS ls hl
        refine lv_iload_n hx hb dX1_through_2 rfl (lv_at hl 3 rfl) ?_
        refine lv_iconst (v := nI 4) hx hb dX1_through_3 (by decide) ?_
        refine wk_geN (tgt := 20) hx hb (a := k) (b := 4) (by omega) (by decide) dX1_through_4 (by decide) (fun c4 => ?_) (fun c4 => ?_)
        · obtain rfl : k = 4 := by omega
          rw [cp0_4] at hP hD
          have hP : va_P D vwCl [(h0, .inr (1, [.int th, .ref a1, .int by0, .int rd, .ref a4, .ref a5, .ref a6, .ref a7, .int zz, .ref a9, .ref a10, .ref a11, .ref a12])), (a9, .inl (cI, 128, .inl TB)), (a10, .inl (cI, 4, .inl b)), (a11, .inl (cI, 4, .inl (st4 d 0 (mQ 1 wh b 0))))] H := hP
          have hD : va_D A [(h0, .inr (1, [.int th, .ref a1, .int by0, .int rd, .ref a4, .ref a5, .ref a6, .ref a7, .int zz, .ref a9, .ref a10, .ref a11, .ref a12])), (a9, .inl (cI, 128, .inl TB)), (a10, .inl (cI, 4, .inl b)), (a11, .inl (cI, 4, .inl (st4 d 0 (mQ 1 wh b 0))))] := hD
          refine lv_iconst (v := nI 0) hx hb dX1_through_20 (by decide) ?_
          refine lv_istore_n (lv' := [(3, .int (nI 0)), (0, .ref h0), (1, .int (nI wh)), (2, .int (nI 1))]) hx hb dX1_through_21 rfl hl (by decide) rfl (fun ls hl => ?_)
          exact lpP 33 0 (by omega) (by omega) _ _ hP hD hS ls (lv_sub hl [1, 2, 3, 0] rfl)
        · refine lv_aload_n hx hb dX1_through_7 rfl (lv_at hl 0 rfl) ?_
          refine va_get (D := D) (ci := 1) (v := .ref a11) (C := RX1) (T := TX1) (N := 13) hx hb hts hinX1 hown hK hP 0 rfl rfl 11 (by decide) (hts (.fieldLink RX1 31 "SlicedCipherModel" "made" "[I") (by decide +kernel)) (fun _ h9 => h9) rfl dX1_through_8 ?_
          refine lv_iload_n hx hb dX1_through_11 rfl (lv_at hl 3 rfl) ?_
          refine lv_iconst (v := nI 0) hx hb dX1_through_12 (by decide) ?_
          refine wk_iast hx hb hK hP hD hS 3 0 rfl rfl (k := k) (x := nI 0) (by omega) (by decide) dX1_through_13 (fun H locs hP hD hS => ?_)
          have hP : va_P D vwCl [(h0, .inr (1, [.int th, .ref a1, .int by0, .int rd, .ref a4, .ref a5, .ref a6, .ref a7, .int zz, .ref a9, .ref a10, .ref a11, .ref a12])), (a9, .inl (cI, 128, .inl TB)), (a10, .inl (cI, 4, .inl b)), (a11, .inl (cI, 4, .inl (upd (cp0 d k) k (nI 0))))] H := hP
          have hD : va_D A [(h0, .inr (1, [.int th, .ref a1, .int by0, .int rd, .ref a4, .ref a5, .ref a6, .ref a7, .int zz, .ref a9, .ref a10, .ref a11, .ref a12])), (a9, .inl (cI, 128, .inl TB)), (a10, .inl (cI, 4, .inl b)), (a11, .inl (cI, 4, .inl (upd (cp0 d k) k (nI 0))))] := hD
          refine lv_iinc (v := nI (k + 1)) (lv' := [(3, .int (nI (k + 1))), (0, .ref h0), (1, .int (nI wh)), (2, .int (nI 1))]) hx hb dX1_through_14 hl (k := 3) rfl (wk_inc k (by decide)) (by decide) rfl (fun ls hl => ?_)
          refine lv_goto (tgt := 2) hx hb dX1_through_17 (by decide) ?_
          exact ih (k + 1) (by omega) (by omega) _ _ hP hD hS ls (lv_sub hl [1, 2, 3, 0] rfl)
  refine lv_iconst (v := nI 0) hx hb dX1_through_0 (by decide) ?_
  refine lv_istore_n (lv' := [(3, .int (nI 0)), (0, .ref h0), (1, .int (nI wh)), (2, .int (nI 1))]) hx hb dX1_through_1 rfl hl (by decide) rfl (fun ls hl => ?_)
  exact lpA 5 0 (by omega) (by omega) _ _ hP hD hS ls (lv_sub hl [1, 2, 3, 0] rfl)
end
section
theorem zz_end : True := trivial
end
