/-! MY LAYER: throws -/
def XSL : List (String × Nat × String) := [("TestkitchenBench", 91, "the run has no such edge"), ("TestkitchenBench", 119, "draw is not 0 to 9999"), ("TestkitchenBench", 139, "no case is kept"), ("TestkitchenBench", 154, "no such known case"), ("TestkitchenBench", 156, "what is not 0 to 6"), ("TestkitchenBench", 181, "what is not 0 to 2"), ("TestkitchenBench", 195, "what is not 0 to 7"), ("TestkitchenBench", 212, "the case has no failure"), ("TestkitchenBench", 218, "no such kind"), ("TestkitchenBench", 220, "the other slot is the same"), ("TestkitchenBench", 222, "there are 6 relations"), ("TestkitchenBench", 259, "k is not 1 to 50"), ("TestkitchenBench", 337, "no such node"), ("TestkitchenBench", 339, "no such node to lead to"), ("TestkitchenBench", 341, "no such edge"), ("TestkitchenBench", 343, "no such slot"), ("TestkitchenBench", 345, "how is not 0 to 2"), ("TestkitchenBench", 347, "bound is not 0 to 9"), ("TestkitchenBench", 349, "no case"), ("TestkitchenBench", 351, "a weight is not 0 to 9"), ("TestkitchenBench", 353, "there are 40 known cases"), ("TestkitchenBench", 355, "no such relation")]
def XEL : List String := ["java/lang/IllegalArgumentException", "java/lang/IllegalStateException", "java/lang/IndexOutOfBoundsException"]
def XNL : List (String × String) := XEL.flatMap fun a => (XEL.filter (fun b => b != a)).map fun b => (a, b)
def XDL : List MethodName := [⟨"java/lang/RuntimeException", "<init>", "(Ljava/lang/String;)V"⟩, ⟨"java/lang/Exception", "<init>", "(Ljava/lang/String;)V"⟩, ⟨"java/lang/Throwable", "<init>", "(Ljava/lang/String;)V"⟩]
def XS (U : State) : Prop := (∀ q ∈ XSL, ∃ sa, vk_R q.1 q.2.1 q.2.2 sa U) ∧ (∀ E ∈ XEL, va_Nw (.castable E E) U) ∧ (∀ q ∈ XNL, va_Nc q.1 q.2 U) ∧ ∀ y ∈ XDL, va_Nw (.declares y) U
theorem XS.warm {s U : State} (hW : s.WarmedH U.vm) (h : XS s) : XS U := ⟨fun q hq => by obtain ⟨sa, h1⟩ := h.1 q hq; exact ⟨sa, h1.warm hW⟩, fun E hE => va_Nw.warmC hW (h.2.1 E hE), fun q hq => va_Nc.moved hW.alike (h.2.2.1 q hq), fun y hy => va_Nw.warmD hW (h.2.2.2 y hy)⟩
theorem XS.same {u U : State} (hv : u.vm = U.vm) (h : XS u) : XS U := ⟨fun q hq => by obtain ⟨sa, h1⟩ := h.1 q hq; exact ⟨sa, vk_R.same hv.symm h1⟩, fun E hE => va_Nw.same rfl hv (h.2.1 E hE), fun q hq => va_Nc.moved (by rw [hv]; exact Vm.Alike.refl _) (h.2.2.1 q hq), fun y hy => va_Nw.same rfl hv (h.2.2.2 y hy)⟩
def XZ (A : Nat → Prop) (U : State) (H : Heap) : Prop := vx_Zq Bundle.tN "UNASSIGNED_STACK" Bundle.steD A U H ∧ vx_Zq Bundle.tN "SUPPRESSED_SENTINEL" Bundle.listD A U H
theorem XZ.at {A B : Nat → Prop} {s U : State} {H : Heap} {locs : List Loc} (h : XZ A s s.heap) (hS : va_S A s.heap H locs) (hU : U.heap = H) (hW : s.WarmedH U.vm) (hB : ∀ q, B q → A q) : XZ B U U.heap := by
  subst hU
  exact ⟨((h.1.kept (fun a h1 h2 => hS.2.1 a h1 h2)).moved hW.alike).narrow hB, ((h.2.kept (fun a h1 h2 => hS.2.1 a h1 h2)).moved hW.alike).narrow hB⟩
theorem XZ.calling {A : Nat → Prop} {U : State} (h : XZ A U U.heap) (g : JFrame) (mk : MethodId) (a : Array Value) : XZ A (U.calling g mk a) (U.calling g mk a).heap := ⟨vx_Zq.moved (u := U) (U := U.calling g mk a) (Vm.Alike.refl U.vm) h.1, vx_Zq.moved (u := U) (U := U.calling g mk a) (Vm.Alike.refl U.vm) h.2⟩
def gPx (D : va_G) (tys : List (ClassId × FieldType)) (av : List Value) (w : va_W) (sz : Nat) : Array Value → State → Prop := va_Pc av (fun U => U.heap.size = sz ∧ va_D (fun _ => True) w ∧ XZ (va_A w sz) U U.heap ∧ XS U ∧ gB D tys w U)
theorem gPx.blind {D : va_G} {tys : List (ClassId × FieldType)} {av : List Value} {w : va_W} {sz : Nat} : FrameBlind (gPx D tys av w sz) := fun a U g mk q => ⟨q.1, q.2.1, q.2.2.1, q.2.2.2.1.calling g mk a, XS.same (u := U) rfl q.2.2.2.2.1, q.2.2.2.2.2.calling g mk a⟩
def xc (E : String) (A : Nat → Prop) : String → State → State → Prop := fun E' st t => E' = E ∧ va_F A st t
def xNo : Array Value → State → Outcome → State → Prop := fun _ _ _ _ => False
/-- a method that throws E -/
def XM (l : Launch) (y : MethodName) (ws : List Cond) (rm : Room) (D : va_G) (tys : List (ClassId × FieldType)) (av : List Value) (w : va_W) (E : String) : Prop := ∀ sz : Nat, vx_Met l y ws rm (gPx D tys av w sz) xNo (xc E (va_A w sz)) rm.cells rm.slots (va_A w sz)
theorem XM.ofG {l : Launch} {y : MethodName} {ws ws' : List Cond} {rm : Room} {D : va_G} {tys : List (ClassId × FieldType)} {av : List Value} {w : va_W} {E : String} (cc : ByteArray) (maxL : Nat) (ret : Option FieldType) (hy : plainName y.cls = true) (hw : ws = Cond.code y cc maxL ret :: ws') (hlen : (lg_sl av).length ≤ maxL)
    (body : ∀ (p : Program) (e : Env) (s : State) (m : MethodId) (below : List Frame) (meth : Method) (c : Code) (A : Nat → Prop), (∀ q, s.heap.size ≤ q → A q) → (∀ x ∈ c.exceptionTable.toList, False) → XZ A s s.heap → XS s → CallFix p m c cc maxL s av.toArray ws y.cls → meth.locks = false → va_K D vwCl tys s → NWs s →
      G p l e rm s m av.toArray below meth c (vx_MQ below xNo (xc E A) av.toArray s rm.cells rm.slots A) D A A maxL 0 0 w (lv_args 0 av) 0 []) : XM l y ws rm D tys av w E := by
  intro sz
  refine vx_ofW (cc := cc) (maxL := maxL) (ret := ret) hy hw ?_
  intro p e s m args below meth c s₁ Bd hml hno hv
  obtain ⟨rfl, hsz, hD, hZ, hXS, hP, hK, hN⟩ := hv
  subst hsz
  have hb := body p e s m below meth c (va_A w s.heap.size) (fun q h => Or.inr h) hno hZ hXS ⟨Bd.exec, Bd.bytes, hml, findClass_of_methodNamed Bd.named, atoms_spec (ws := ws) Bd.pre⟩ Bd.notSynchronized hK hN
  rw [lg_entry_eq]
  exact hb s.heap [] _ hP hD.self va_S.rf (lv_entry av hlen)
/-- a helper that calls what may throw, and catches it: it returns -/
def HM (l : Launch) (y : MethodName) (ws : List Cond) (rm : Room) (D : va_G) (tys : List (ClassId × FieldType)) (av : List Value) (w : va_W) {S : Type} (post : S → Prop) (v : S → Option Value) (w' : S → va_W) : Prop := ∀ sz : Nat, Met l y ws rm (gPx D tys av w sz) (gQw D post v w' (va_A w sz)) rm.cells rm.slots (va_A w sz)
theorem HM.ofG {l : Launch} {y : MethodName} {ws ws' : List Cond} {rm : Room} {D : va_G} {tys : List (ClassId × FieldType)} {av : List Value} {w : va_W} {S : Type} {post : S → Prop} {v : S → Option Value} {w' : S → va_W} {hh : List (Nat × Nat × Nat × Nat)} (cc : ByteArray) (maxL : Nat) (ret : Option FieldType) (hy : plainName y.cls = true) (hw : ws = Cond.codeWith y cc maxL ret hh :: ws') (hlen : (lg_sl av).length ≤ maxL)
    (body : ∀ (p : Program) (e : Env) (s : State) (m : MethodId) (below : List Frame) (meth : Method) (c : Code) (A : Nat → Prop), (∀ q, s.heap.size ≤ q → A q) → c.exceptionTable.toList = tableOf hh → XZ A s s.heap → XS s → CallFix p m c cc maxL s av.toArray ws y.cls → meth.sig.returnType = ret → meth.locks = false → va_K D vwCl tys s → NWs s →
      G p l e rm s m av.toArray below meth c (MQ below (gQw D post v w' A) av.toArray s rm.cells rm.slots A) D A A maxL 0 0 w (lv_args 0 av) 0 []) : HM l y ws rm D tys av w post v w' := by
  intro sz
  refine MetFree.of_bodyS (code := cc) (maxLocals := maxL) (ret := ret) hy ?_ ?_
  · intro args s m h hn
    obtain ⟨m9, meth, c, hn9, h1, h2, h3, h4, -, h5, h6, -⟩ := Cond.codeWith_spec (atoms_spec (ws := ws) h _ (by rw [hw]; exact List.mem_cons_self))
    cases hn.symm.trans hn9
    exact ⟨meth, c, h1, h2, h3, h4, h5, h6⟩
  · intro p e s m args below meth c s₁ Bd hml hv _
    have hh0 : s₁.heap = s.heap := by rw [Bd.state]; rfl
    have hts := atoms_spec (ws := ws) Bd.pre
    have htab := vx_table (x := y) Bd (hts _ (by rw [hw]; exact List.mem_cons_self))
    obtain ⟨rfl, hsz, hD, hZ, hXS, hP, hK, hN⟩ := hv
    subst hsz
    have hb := body p e s m below meth c (va_A w s.heap.size) (fun q h => Or.inr h) htab hZ hXS ⟨Bd.exec, Bd.bytes, hml, findClass_of_methodNamed Bd.named, hts⟩ Bd.returns Bd.notSynchronized hK hN
    have hg := hb s.heap [] _ hP hD.self va_S.rf (lv_entry av hlen)
    rw [← lg_entry_eq] at hg
    obtain ⟨t, a1, o, b1, b2, b3⟩ := hg s₁ hh0 (Stand.of_body Bd)
    exact ⟨t, o, a1, b1, b2, b3⟩
section GX
variable {p : Program} {l : Launch} {e : Env} {R : Room} {s : State} {m : MethodId} {args : Array Value} {below : List Frame} {meth : Method} {c : Code} {Q : State → Prop} {D : va_G} {A : Nat → Prop} {nL cells slots : Nat} {w : va_W} {lv : List (Nat × Value)} {pc : Nat} {st : List Value} {cc : ByteArray} {Ts : List Cond} {own : String} {tys : List (ClassId × FieldType)}
theorem g_throwS (B : CallFix p m c cc nL s args Ts own) (hfl : l.stackTraces = false) (hno : ∀ x ∈ c.exceptionTable.toList, covers x (pc + 9) = false) (hZ : XZ A s s.heap) (hXS : XS s) (hlocks : meth.locks = false) {cls text : String} {names : List String} {ik is ic mc ms : Nat} (qs : Nat) (hq : XSL[qs]? = some (own, is, text)) (qe : Nat) (hqe : XEL[qe]? = some cls) (hcls : Bundle.fit cls = true) (hnames : ∀ n ∈ names, Bundle.fit n = true) (hk : Cond.classLink own ik cls ∈ Ts) (hini : Cond.initialized cls ∈ Ts) (hat : ∀ z ∈ (vx_atS own ic cls names).filter goodWord, z ∈ Ts) (hat2 : ∀ z ∈ (vx_atS own ic cls names).filter (fun z => !goodWord z), z ∈ Cond.castable cls cls :: XDL.map Cond.declares) (hgood : ∀ z ∈ Cond.classLink own ik cls :: Cond.initialized cls :: vx_atS own ic cls names, vx_ot z = true)
    (d0 : decode cc pc = .ok (.new ik, 3)) (d3 : decode cc (pc + 3) = .ok (.dup, 1)) (d4 : decode cc (pc + 4) = .ok (.ldc is, 2)) (d6 : decode cc (pc + 6) = .ok (.invokespecial ic, 3)) (d9 : decode cc (pc + 9) = .ok (.athrow, 1)) (hRframes : names.length + 3 < R.frames) (hRlocals : (st.map fun v => v.category).sum + (13 * (names.length + 1) + 43) ≤ R.locals) (hRcells : cells + 1 ≤ R.cells) (hRslots : slots + 6 ≤ R.slots) (hc : cells + 1 ≤ mc) (hs : slots + 6 ≤ ms) : G p l e R s m args below meth c (vx_MQ below xNo (xc cls A) args s mc ms A) D A A nL cells slots w lv pc st := by
  intro H locs ls hP hD hS hl
  obtain ⟨sa, hstr⟩ := hXS.1 _ (List.mem_of_getElem? hq)
  refine vx_throwS (sa := sa) B.1 B.2.1 hfl B.2.2.2.1 hcls hnames (B.2.2.2.2 _ hk) (B.2.2.2.2 _ hini) hstr (vx_hat (fun z hz => B.2.2.2.2 _ (hat z hz)) hat2 (fun z hz => by
    rcases List.mem_cons.mp hz with h | h
    · rw [h]; exact va_Nw.use rfl (hXS.2.1 _ (List.mem_of_getElem? hqe))
    · obtain ⟨yy, h1, rfl⟩ := List.mem_map.mp h
      exact va_Nw.use rfl (hXS.2.2.2 yy h1))) hgood hZ.1 hZ.2 hS (hl.1.trans B.2.2.1.symm) d0 d3 d4 d6 d9 hno hRframes hRlocals hRcells hRslots hlocks (fun t hal hz hk => ⟨rfl, Nat.le_trans hS.1 hz, fun q h1 h2 => by rw [hk q (Nat.lt_of_lt_of_le h1 hS.1)]; exact hS.2.1 q h1 h2⟩) hS.2.2 hc hs
theorem g_throwSW (B : CallFix p m c cc nL s args Ts own) (hfl : l.stackTraces = false) (hno : ∀ x ∈ c.exceptionTable.toList, covers x (pc + 10) = false) (hZ : XZ A s s.heap) (hXS : XS s) (hlocks : meth.locks = false) {cls text : String} {names : List String} {ik is ic mc ms : Nat} (qs : Nat) (hq : XSL[qs]? = some (own, is, text)) (qe : Nat) (hqe : XEL[qe]? = some cls) (hcls : Bundle.fit cls = true) (hnames : ∀ n ∈ names, Bundle.fit n = true) (hk : Cond.classLink own ik cls ∈ Ts) (hini : Cond.initialized cls ∈ Ts) (hat : ∀ z ∈ (vx_atS own ic cls names).filter goodWord, z ∈ Ts) (hat2 : ∀ z ∈ (vx_atS own ic cls names).filter (fun z => !goodWord z), z ∈ Cond.castable cls cls :: XDL.map Cond.declares) (hgood : ∀ z ∈ Cond.classLink own ik cls :: Cond.initialized cls :: vx_atS own ic cls names, vx_ot z = true)
    (d0 : decode cc pc = .ok (.new ik, 3)) (d3 : decode cc (pc + 3) = .ok (.dup, 1)) (d4 : decode cc (pc + 4) = .ok (.ldc_w is, 3)) (d6 : decode cc (pc + 7) = .ok (.invokespecial ic, 3)) (d9 : decode cc (pc + 10) = .ok (.athrow, 1)) (hRframes : names.length + 3 < R.frames) (hRlocals : (st.map fun v => v.category).sum + (13 * (names.length + 1) + 43) ≤ R.locals) (hRcells : cells + 1 ≤ R.cells) (hRslots : slots + 6 ≤ R.slots) (hc : cells + 1 ≤ mc) (hs : slots + 6 ≤ ms) : G p l e R s m args below meth c (vx_MQ below xNo (xc cls A) args s mc ms A) D A A nL cells slots w lv pc st := by
  intro H locs ls hP hD hS hl
  obtain ⟨sa, hstr⟩ := hXS.1 _ (List.mem_of_getElem? hq)
  refine vx_throwSW (sa := sa) B.1 B.2.1 hfl B.2.2.2.1 hcls hnames (B.2.2.2.2 _ hk) (B.2.2.2.2 _ hini) hstr (vx_hat (fun z hz => B.2.2.2.2 _ (hat z hz)) hat2 (fun z hz => by
    rcases List.mem_cons.mp hz with h | h
    · rw [h]; exact va_Nw.use rfl (hXS.2.1 _ (List.mem_of_getElem? hqe))
    · obtain ⟨yy, h1, rfl⟩ := List.mem_map.mp h
      exact va_Nw.use rfl (hXS.2.2.2 yy h1))) hgood hZ.1 hZ.2 hS (hl.1.trans B.2.2.1.symm) d0 d3 d4 d6 d9 hno hRframes hRlocals hRcells hRslots hlocks (fun t hal hz hk => ⟨rfl, Nat.le_trans hS.1 hz, fun q h1 h2 => by rw [hk q (Nat.lt_of_lt_of_le h1 hS.1)]; exact hS.2.1 q h1 h2⟩) hS.2.2 hc hs
def gXRun (p : Program) (l : Launch) (e : Env) (R : Room) (s : State) (m : MethodId) (args : Array Value) (below : List Frame) (meth : Method) (c : Code) (D : va_G) (A : Nat → Prop) (nL cells slots : Nat) (w : va_W) (lv : List (Nat × Value)) (pc : Nat) (st0 st : List Value) (mc ms : Nat) (E : String) (wc : va_W) : Prop :=
  ∀ (H : Heap) (locs : List Loc) (ls : Array Slot), va_P D vwCl w H → va_D A w → va_S A s.heap H locs → lv_has ls nL lv → vx_Run p l e R s m args below meth c H locs cells slots mc ms (F0 m pc ls st0) st (fun _ _ _ => False) (xc E (va_A wc H.size)) (va_A wc H.size)
theorem va_subA {wc : va_W} {H : Heap} {locs : List Loc} (hD : va_D A w) (hS : va_S A s.heap H locs) (hA : ∀ q, s.heap.size ≤ q → A q) (is : List Nat) (hC : is.map (fun i => w[i]?) = wc.map some) : ∀ q, va_A wc H.size q → A q := va_free hD hS hA is hC
variable {y : MethodName} {bytes : ByteArray} {maxL index : Nat} {ret : Option FieldType} {ws ws' : List Cond} {rm : Room} {av st0 : List Value} {wc : va_W} {E : String}
theorem gPx.pre {H : Heap} {locs : List Loc} {U : State} (hK : va_K D vwCl tys s) (hN : NWs s) (hZ : XZ A s s.heap) (hXS : XS s) (hA : ∀ q, s.heap.size ≤ q → A q) (is : List Nat) (hC : is.map (fun i => w[i]?) = wc.map some) (hn : va_nd is = true) (hP : va_P D vwCl w H) (hD : va_D A w) (hS : va_S A s.heap H locs) (hU : U.heap = H) (hW : s.WarmedH U.vm) : gPx D tys av wc H.size av.toArray U :=
  ⟨rfl, by rw [hU], (hD.sub is hn hC).weaken (fun _ _ _ _ => trivial), hZ.at hS hU hW (va_subA hD hS hA is hC), hXS.warm hW, gB.at (gP_sub hP is hC) hK hN hU hW⟩
theorem g_xrunS (B : CallFix p m c cc nL s args Ts own) (hM : XM l y ws rm D tys av wc E) (hK : va_K D vwCl tys s) (hN : NWs s) (hZ : XZ A s s.heap) (hXS : XS s) (hA : ∀ q, s.heap.size ≤ q → A q) (is : List Nat) (hC : is.map (fun i => w[i]?) = wc.map some) (hn : va_nd is = true) (hT : GoodIn Ts (va_wsS own index y ws)) (hw : ws = Cond.code y bytes maxL ret :: ws') (hd : y.cls ≠ "java/lang/invoke/MethodHandle" ∧ y.cls ≠ "java/lang/invoke/VarHandle" ∧ (parseMethodDescriptor y.desc).map (fun d => d.parameters.length) = some av.length) (hR : rm.frames + 1 ≤ R.frames ∧ 8 + (maxL + 11) + rm.locals ≤ R.locals) (hst : st0 = av.reverse ++ st) (hcat : (st.map fun v => v.category).sum ≤ 8) (hdg : decode cc pc = .ok (.invokestatic index, 3)) (hf : cells + rm.cells ≤ R.cells ∧ slots + rm.slots ≤ R.slots) :
    gXRun p l e R s m args below meth c D A nL cells slots w lv pc st0 st rm.cells rm.slots E wc := fun H locs ls hP hD hS hl =>
  vx_runS B (hM H.size) (va_cwS av.length B.2.2.2.2 hT hw rfl rfl hd hR) ⟨gPx.blind, fun U hU hW => gPx.pre hK hN hZ hXS hA is hC hn hP hD hS hU hW⟩ rfl rfl hl.1 hst (lv_room hcat) hdg hf
theorem g_xrunV {av' : List Value} {b ci q0 : Nat} {fs : List Value} {r : vw_C} (B : CallFix p m c cc nL s args Ts own) (hM : XM l y ws rm D tys (.ref b :: av') wc E) (hK : va_K D vwCl tys s) (he : w[q0]? = some (b, .inr (ci, fs))) (hc : vwCl[ci]? = some r) (hN : NWs s) (hZ : XZ A s s.heap) (hXS : XS s) (hA : ∀ q, s.heap.size ≤ q → A q) (is : List Nat) (hC : is.map (fun i => w[i]?) = wc.map some) (hn : va_nd is = true) (hT : GoodIn Ts (wsV own index r.1 y ws)) (hw : ws = Cond.code y bytes maxL ret :: ws') (hyc : y.cls = r.1) (hd : y.cls ≠ "java/lang/invoke/MethodHandle" ∧ y.cls ≠ "java/lang/invoke/VarHandle" ∧ (parseMethodDescriptor y.desc).map (fun d => d.parameters.length) = some av'.length) (hR : rm.frames + 1 ≤ R.frames ∧ 8 + (maxL + 11) + rm.locals ≤ R.locals) (hst : st0 = av'.reverse ++ .ref b :: st) (hcat : (st.map fun v => v.category).sum ≤ 8) (hdg : decode cc pc = .ok (.invokevirtual index, 3)) (hf : cells + rm.cells ≤ R.cells ∧ slots + rm.slots ≤ R.slots) :
    gXRun p l e R s m args below meth c D A nL cells slots w lv pc st0 st rm.cells rm.slots E wc := fun H locs ls hP hD hS hl =>
  vx_runV B (hM H.size) (cwV av'.length B.2.2.2.2 hT hw rfl rfl ⟨hyc, hd⟩ hR) ⟨gPx.blind, va_recv hK hP hc he, fun U hU hW => gPx.pre hK hN hZ hXS hA is hC hn hP hD hS hU hW⟩ rfl rfl hl.1 hst (lv_room hcat) hdg hf
theorem g_xout {mc ms mcs mss : Nat} (hr : gXRun p l e R s m args below meth c D A nL cells slots w lv pc st0 st mc ms E wc) (hno : ∀ x ∈ c.exceptionTable.toList, covers x pc = false) (hlocks : meth.locks = false) (hA : ∀ q, s.heap.size ≤ q → A q) (is : List Nat) (hC : is.map (fun i => w[i]?) = wc.map some) (h1 : cells + mc ≤ mcs) (h2 : slots + ms ≤ mss) : G p l e R s m args below meth c (vx_MQ below xNo (xc E A) args s mcs mss A) D A A nL cells slots w lv pc st0 := by
  intro H locs ls hP hD hS hl T hT X
  have hB := va_subA hD hS hA is hC
  rcases hr H locs ls hP hD hS hl T hT X with ⟨v, st₀, t, T', L, -, -, -, -, -, hf, -⟩ | ⟨q, st₀, t, T', L, E', ce, h0, X', hL, e1, e2, ⟨rfl, hF⟩, hce, hcv, hcl, hgo⟩
  · exact hf.elim
  · obtain ⟨k1, k2, k3⟩ := vx_keep h0 e1 hS (fun q h1 h2 => hB q h2) hB hL hF
    obtain ⟨t2, a1, b1⟩ := vx_out (Qc := xNo) (XC := xc E' A) (mc := mcs) (ms := mss) (free := A) (ls := ls) (rest := st) hno hlocks (by rw [e1]; exact hce) hcv hcl (fun t3 ht3 hal => ⟨rfl, k3.F ht3⟩) k3.2.2 h1 h2 T' rfl X'
    exact ⟨t2, hgo.trans a1, b1⟩
theorem g_xcatch {wr : va_W} {mc ms : Nat} {name : String} (B : CallFix p m c cc nL s args Ts own) (hr : gXRun p l e R s m args below meth c D A nL cells slots w lv pc st0 st mc ms E wc) (hXS : XS s) (hA : ∀ q, s.heap.size ≤ q → A q) (isC isR : List Nat) (hC : isC.map (fun i => w[i]?) = wc.map some) (hR : isR.map (fun i => w[i]?) = wr.map some) (hn : va_nd isR = true) (hdis : ∀ i ∈ isR, i ∉ isC) (pre : List ExceptionTableEntry) (x : ExceptionTableEntry) (suf : List ExceptionTableEntry) (hsplit : c.exceptionTable.toList = pre ++ x :: suf) (hpass : ∀ z ∈ pre, covers z pc = false ∨ (z.catchType ≠ 0 ∧ ∃ nm : String, Cond.classLink own z.catchType nm ∈ Ts ∧ (E, nm) ∈ XNL)) (hx : covers x pc = true) (h0 : x.catchType ≠ 0) (hlink : Cond.classLink own x.catchType E ∈ Ts) (qe : Nat) (hqe : XEL[qe]? = some E)
    (kk : ∀ q : Nat, G p l e R s m args below meth c Q D A A nL (cells + mc) (slots + ms) wr lv x.handlerPc [.ref q]) : G p l e R s m args below meth c Q D A A nL cells slots w lv pc st0 := by
  intro H locs ls hP hD hS hl T hT X
  have hB := va_subA hD hS hA isC hC
  rcases hr H locs ls hP hD hS hl T hT X with ⟨v, st₀, t, T', L, -, -, -, -, -, hf, -⟩ | ⟨q, st₀, t, T', L, E', ce, h0', X', hL, e1, e2, ⟨rfl, hF⟩, hce, hcv, hcl, hgo⟩
  · exact hf.elim
  · obtain ⟨k1, k2, k3⟩ := vx_keep h0' e1 hS (fun q h1 h2 => hB q h2) hB hL hF
    have hPr : va_P D vwCl wr T'.heap := by
      have hP2 := gP_sub hP isR hR
      refine hP2.kept (fun k z hz => k2 z.1 (hP2 k z hz).lt (fun hb => ?_))
      obtain ⟨i, hi1, hi2⟩ : ∃ i, isR[k]? = some i ∧ w[i]? = some z := by
        have h1 : (isR.map (fun i => w[i]?))[k]? = some (some z) := by rw [hR, List.getElem?_map, hz]; rfl
        rw [List.getElem?_map] at h1
        cases hi : isR[k]? with
        | none => rw [hi] at h1; cases h1
        | some i => rw [hi] at h1; exact ⟨i, rfl, Option.some.inj h1⟩
      rcases hb with ⟨k3, ee, hk3⟩ | hb
      · have h1 : (isC.map (fun i => w[i]?))[k3]? = some (some (z.1, ee)) := by rw [hC, List.getElem?_map, hk3]; rfl
        rw [List.getElem?_map] at h1
        cases hj : isC[k3]? with
        | none => rw [hj] at h1; cases h1
        | some j =>
          rw [hj] at h1
          have hij := hD.1 i j z (z.1, ee) hi2 (Option.some.inj h1) rfl
          subst hij
          exact hdis i (List.mem_of_getElem? hi1) (List.mem_of_getElem? hj)
      · exact absurd (hP2 k z hz).lt (Nat.not_lt.mpr hb)
    have hcast : (Cond.castable E' E').before args s = true := va_Nw.use rfl (hXS.2.1 _ (List.mem_of_getElem? hqe))
    obtain ⟨t2, a1, b1⟩ := vx_catch (ls := ls) (rest := st) (Q := Q) B.2.2.2.1 pre x suf hsplit (fun z hz => (hpass z hz).imp id (fun ⟨h1, nm, h2, h3⟩ => ⟨h1, nm, B.2.2.2.2 _ h2, hXS.2.2.1 _ h3⟩)) hx h0 (B.2.2.2.2 _ hlink) hcast (by rw [e1]; exact hce) hcv hcl (kk q T'.heap (locs ++ L) ls hPr (hD.sub isR hn hR) k3 hl) T' rfl X'
    exact ⟨t2, hgo.trans a1, b1⟩
/-- a call of a helper with a table -/
theorem g_runSW {S : Type} {post : S → Prop} {v : S → Option Value} {w' : S → va_W} {hh : List (Nat × Nat × Nat × Nat)} (B : CallFix p m c cc nL s args Ts own) (hM : HM l y ws rm D tys av wc post v w') (hK : va_K D vwCl tys s) (hN : NWs s) (hZ : XZ A s s.heap) (hXS : XS s) (hA : ∀ q, s.heap.size ≤ q → A q) (is : List Nat) (hC : is.map (fun i => w[i]?) = wc.map some) (hn : va_nd is = true) (hT : GoodIn Ts (va_wsS own index y ws)) (hw : ws = Cond.codeWith y bytes maxL ret hh :: ws') (hd : y.cls ≠ "java/lang/invoke/MethodHandle" ∧ y.cls ≠ "java/lang/invoke/VarHandle" ∧ (parseMethodDescriptor y.desc).map (fun d => d.parameters.length) = some av.length) (hR : rm.frames + 1 ≤ R.frames ∧ 8 + (maxL + 11) + rm.locals ≤ R.locals) (hst : st0 = av.reverse ++ st) (hcat : (st.map fun v => v.category).sum ≤ 8) (hdg : decode cc pc = .ok (.invokestatic index, 3)) (hf : cells + rm.cells ≤ R.cells ∧ slots + rm.slots ≤ R.slots) :
    gRun p l e R s m args below meth c D A A nL cells slots w lv pc st0 st rm.cells rm.slots (fun n => gQw D post v w' (va_A wc n) av.toArray) (fun n => va_A wc n) := fun H locs ls hP hD hS hl =>
  vx_runSW B (hM H.size) (vx_cwSW av.length B.2.2.2.2 hT hw rfl rfl hd hR) ⟨gPx.blind, fun U hU hW => gPx.pre hK hN hZ hXS hA is hC hn hP hD hS hU hW⟩ rfl rfl hl.1 hst (lv_room hcat) hdg hf
end GX
