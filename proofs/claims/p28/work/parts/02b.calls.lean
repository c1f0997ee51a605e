/-! MY LAYER: entries, returns, calls -/
theorem gP_sub {D : va_G} {cl : List vw_C} {ws ws' : va_W} {H : Heap} (h : va_P D cl ws H) (is : List Nat) (hs : is.map (fun i => ws[i]?) = ws'.map some) : va_P D cl ws' H := fun k q hk => by
  have h1 : (is.map (fun i => ws[i]?))[k]? = some (some q) := by rw [hs, List.getElem?_map, hk]; rfl
  rw [List.getElem?_map] at h1
  cases hi : is[k]? with
  | none => rw [hi] at h1; cases h1
  | some i => rw [hi] at h1; exact h i q (Option.some.inj h1)
theorem PM.ofG {l : Launch} {y : MethodName} {ws ws' : List Cond} {rm : Room} {D : va_G} {tys : List (ClassId × FieldType)} {av : List Value} {w : va_W} {S : Type} {post : S → Prop} {v : S → Option Value} (cc : ByteArray) (maxL : Nat) (ret : Option FieldType) (hy : plainName y.cls = true) (hw : ws = Cond.code y cc maxL ret :: ws') (hlen : (lg_sl av).length ≤ maxL)
    (body : ∀ (p : Program) (e : Env) (s : State) (m : MethodId) (below : List Frame) (meth : Method) (c : Code), CallFix p m c cc maxL s av.toArray ws y.cls → meth.sig.returnType = ret → meth.locks = false → meth.name = y.name → va_K D vwCl tys s → NWs s →
      G p l e rm s m av.toArray below meth c (MQ below (gQp post v) av.toArray s rm.cells rm.slots (fun _ => False)) D (fun _ => True) (fun _ => False) maxL 0 0 w (lv_args 0 av) 0 []) : PM l y ws rm D tys av w post v := by
  refine Met.ofW (cc := cc) (maxL := maxL) (ret := ret) hy hw ?_
  intro p e s m args below meth c s₁ Bd hml hv
  obtain ⟨rfl, hD, hP, hK, hN⟩ := hv
  have hb := body p e s m below meth c ⟨Bd.exec, Bd.bytes, hml, findClass_of_methodNamed Bd.named, atoms_spec (ws := ws) Bd.pre⟩ Bd.returns Bd.notSynchronized (name_of_methodNamed Bd.named Bd.method).1 hK hN
  rw [lg_entry_eq]
  exact hb s.heap [] _ hP hD va_S.rf (lv_entry av hlen)
theorem WM.ofG {l : Launch} {y : MethodName} {ws ws' : List Cond} {rm : Room} {D : va_G} {tys : List (ClassId × FieldType)} {av : List Value} {w : va_W} {S : Type} {post : S → Prop} {v : S → Option Value} {w' : S → va_W} (cc : ByteArray) (maxL : Nat) (ret : Option FieldType) (hy : plainName y.cls = true) (hw : ws = Cond.code y cc maxL ret :: ws') (hlen : (lg_sl av).length ≤ maxL)
    (body : ∀ (p : Program) (e : Env) (s : State) (m : MethodId) (below : List Frame) (meth : Method) (c : Code) (A : Nat → Prop), (∀ q, s.heap.size ≤ q → A q) → CallFix p m c cc maxL s av.toArray ws y.cls → meth.sig.returnType = ret → meth.locks = false → meth.name = y.name → va_K D vwCl tys s → NWs s →
      G p l e rm s m av.toArray below meth c (MQ below (gQw D post v w' A) av.toArray s rm.cells rm.slots A) D A A maxL 0 0 w (lv_args 0 av) 0 []) : WM l y ws rm D tys av w post v w' := by
  intro sz
  refine Met.ofW (cc := cc) (maxL := maxL) (ret := ret) hy hw ?_
  intro p e s m args below meth c s₁ Bd hml hv
  obtain ⟨rfl, hsz, hD, hP, hK, hN⟩ := hv
  subst hsz
  have hb := body p e s m below meth c (va_A w s.heap.size) (fun q h => Or.inr h) ⟨Bd.exec, Bd.bytes, hml, findClass_of_methodNamed Bd.named, atoms_spec (ws := ws) Bd.pre⟩ Bd.returns Bd.notSynchronized (name_of_methodNamed Bd.named Bd.method).1 hK hN
  rw [lg_entry_eq]
  exact hb s.heap [] _ hP hD.self va_S.rf (lv_entry av hlen)
theorem PM.met {l : Launch} {y : MethodName} {ws : List Cond} {rm : Room} {D : va_G} {tys : List (ClassId × FieldType)} {av : List Value} {w : va_W} {S : Type} {post : S → Prop} {v : S → Option Value} (h : PM l y ws rm D tys av w post v) : ∀ _ : Nat, Met l y ws rm (gPp D tys av w) (gQp post v) rm.cells rm.slots (fun _ => False) := fun _ => h
section GL2
variable {p : Program} {l : Launch} {e : Env} {R : Room} {s : State} {m : MethodId} {args : Array Value} {below : List Frame} {meth : Method} {c : Code} {Q : State → Prop} {D : va_G} {AD A : Nat → Prop} {nL cells slots : Nat} {w : va_W} {lv : List (Nat × Value)} {pc : Nat} {st : List Value} {cc : ByteArray} {Ts : List Cond} {own : String} {tys : List (ClassId × FieldType)}
theorem g_iret_p {S : Type} {post : S → Prop} {v : S → Option Value} {x : Int32} (B : CallFix p m c cc nL s args Ts own) {ty : FieldType} (hr : meth.sig.returnType = some ty) (hnar : narrow ty (.int x) = .int x) (hlocks : meth.locks = false) (u : S) (hv : v u = some (.int x)) (hp : post u) (hdg : decode cc pc = .ok (.ireturn, 1)) : G p l e R s m args below meth c (MQ below (gQp post v) args s cells slots (fun _ => False)) D AD (fun _ => False) nL cells slots w lv pc [.int x] := by
  intro H locs ls hP hD hS hl
  exact W.zret B.1 B.2.1 hr hnar (fun t ht hW => ⟨u, by rw [hv], hp, hS.F ht⟩) hS.2.2 hdg hlocks
theorem g_lret_p {S : Type} {post : S → Prop} {v : S → Option Value} {x : Int64} (B : CallFix p m c cc nL s args Ts own) (hr : meth.sig.returnType = some .long) (hlocks : meth.locks = false) (u : S) (hv : v u = some (.long x)) (hp : post u) (hdg : decode cc pc = .ok (.lreturn, 1)) : G p l e R s m args below meth c (MQ below (gQp post v) args s cells slots (fun _ => False)) D AD (fun _ => False) nL cells slots w lv pc [.long x] := by
  intro H locs ls hP hD hS hl
  exact W.lret B.1 B.2.1 hr (fun t ht hW => ⟨u, by rw [hv], hp, hS.F ht⟩) hS.2.2 hdg hlocks
theorem g_vret_p {S : Type} {post : S → Prop} {v : S → Option Value} (B : CallFix p m c cc nL s args Ts own) (hr : meth.sig.returnType = none) (hlocks : meth.locks = false) (u : S) (hv : v u = none) (hp : post u) (hdg : decode cc pc = .ok (.return_, 1)) : G p l e R s m args below meth c (MQ below (gQp post v) args s cells slots (fun _ => False)) D AD (fun _ => False) nL cells slots w lv pc [] := by
  intro H locs ls hP hD hS hl
  exact W.vret B.1 B.2.1 hr (fun t ht hW => ⟨u, by rw [hv], hp, hS.F ht⟩) hS.2.2 hdg hlocks
theorem g_iret_w {S : Type} {post : S → Prop} {v : S → Option Value} {w' : S → va_W} {x : Int32} (B : CallFix p m c cc nL s args Ts own) {ty : FieldType} (hr : meth.sig.returnType = some ty) (hnar : narrow ty (.int x) = .int x) (hlocks : meth.locks = false) (u : S) (hv : v u = some (.int x)) (hp : post u) (is : List Nat) (hn : va_nd is = true) (hw : is.map (fun i => w[i]?) = (w' u).map some) (hdg : decode cc pc = .ok (.ireturn, 1)) : G p l e R s m args below meth c (MQ below (gQw D post v w' A) args s cells slots A) D A A nL cells slots w lv pc [.int x] := by
  intro H locs ls hP hD hS hl
  exact W.zret B.1 B.2.1 hr hnar (fun t ht hW => ⟨u, by rw [hv], hp, by rw [ht]; exact gP_sub hP is hw, hD.sub is hn hw, hS.F ht⟩) hS.2.2 hdg hlocks
theorem g_lret_w {S : Type} {post : S → Prop} {v : S → Option Value} {w' : S → va_W} {x : Int64} (B : CallFix p m c cc nL s args Ts own) (hr : meth.sig.returnType = some .long) (hlocks : meth.locks = false) (u : S) (hv : v u = some (.long x)) (hp : post u) (is : List Nat) (hn : va_nd is = true) (hw : is.map (fun i => w[i]?) = (w' u).map some) (hdg : decode cc pc = .ok (.lreturn, 1)) : G p l e R s m args below meth c (MQ below (gQw D post v w' A) args s cells slots A) D A A nL cells slots w lv pc [.long x] := by
  intro H locs ls hP hD hS hl
  exact W.lret B.1 B.2.1 hr (fun t ht hW => ⟨u, by rw [hv], hp, by rw [ht]; exact gP_sub hP is hw, hD.sub is hn hw, hS.F ht⟩) hS.2.2 hdg hlocks
theorem g_vret_w {S : Type} {post : S → Prop} {v : S → Option Value} {w' : S → va_W} (B : CallFix p m c cc nL s args Ts own) (hr : meth.sig.returnType = none) (hlocks : meth.locks = false) (u : S) (hv : v u = none) (hp : post u) (is : List Nat) (hn : va_nd is = true) (hw : is.map (fun i => w[i]?) = (w' u).map some) (hdg : decode cc pc = .ok (.return_, 1)) : G p l e R s m args below meth c (MQ below (gQw D post v w' A) args s cells slots A) D A A nL cells slots w lv pc [] := by
  intro H locs ls hP hD hS hl
  exact W.vret B.1 B.2.1 hr (fun t ht hW => ⟨u, by rw [hv], hp, by rw [ht]; exact gP_sub hP is hw, hD.sub is hn hw, hS.F ht⟩) hS.2.2 hdg hlocks
/-- a call that is run: by its kind -/
def gRun (p : Program) (l : Launch) (e : Env) (R : Room) (s : State) (m : MethodId) (args : Array Value) (below : List Frame) (meth : Method) (c : Code) (D : va_G) (AD A : Nat → Prop) (nL cells slots : Nat) (w : va_W) (lv : List (Nat × Value)) (pc : Nat) (st0 st : List Value) (mc ms : Nat) (Qa : Nat → State → Outcome → State → Prop) (free : Nat → Addr → Prop) : Prop :=
  ∀ (H : Heap) (locs : List Loc) (ls : Array Slot), va_P D vwCl w H → va_D AD w → va_S A s.heap H locs → lv_has ls nL lv → va_Run p l e R s m args below meth c H locs cells slots mc ms (F0 m pc ls st0) st (Qa H.size) (free H.size)
/-- what a callee asks holds in the caller's world -/
def gPre (s : State) (D : va_G) (AD A : Nat → Prop) (w : va_W) (Pc : Nat → Array Value → State → Prop) (av : List Value) : Prop :=
  (∀ n, FrameBlind (Pc n)) ∧ ∀ (H : Heap) (U : State) (locs : List Loc), va_P D vwCl w H → va_D AD w → va_S A s.heap H locs → U.heap = H → s.WarmedH U.vm → Pc H.size av.toArray U
theorem gPp.pre {av : List Value} {wc : va_W} (hK : va_K D vwCl tys s) (hN : NWs s) (is : List Nat) (hC : is.map (fun i => w[i]?) = wc.map some) (hn : va_nd is = true) : gPre s D AD A w (fun _ => gPp D tys av wc) av :=
  ⟨fun _ => gPp.blind, fun H U _ hP hD _ hU hW => ⟨rfl, (hD.sub is hn hC).weaken (fun _ _ _ _ => trivial), gB.at (gP_sub hP is hC) hK hN hU hW⟩⟩
theorem gPw.pre {av : List Value} {wc : va_W} (hK : va_K D vwCl tys s) (hN : NWs s) (is : List Nat) (hC : is.map (fun i => w[i]?) = wc.map some) (hn : va_nd is = true) : gPre s D AD A w (fun n => gPw D tys av wc n) av :=
  ⟨fun _ => gPw.blind, fun H U _ hP hD _ hU hW => ⟨rfl, by rw [hU], (hD.sub is hn hC).weaken (fun _ _ _ _ => trivial), gB.at (gP_sub hP is hC) hK hN hU hW⟩⟩
variable {y : MethodName} {bytes : ByteArray} {maxL index : Nat} {ret : Option FieldType} {ws ws' : List Cond} {rm : Room} {Pc : Nat → Array Value → State → Prop} {Qc : Nat → Array Value → State → Outcome → State → Prop} {free : Nat → Addr → Prop} {av st0 : List Value}
theorem g_runS (B : CallFix p m c cc nL s args Ts own) (hM : ∀ n, Met l y ws rm (Pc n) (Qc n) rm.cells rm.slots (free n)) (hp : gPre s D AD A w Pc av) (hT : GoodIn Ts (va_wsS own index y ws)) (hw : ws = Cond.code y bytes maxL ret :: ws') (hd : y.cls ≠ "java/lang/invoke/MethodHandle" ∧ y.cls ≠ "java/lang/invoke/VarHandle" ∧ (parseMethodDescriptor y.desc).map (fun d => d.parameters.length) = some av.length) (hR : rm.frames + 1 ≤ R.frames ∧ 8 + (maxL + 11) + rm.locals ≤ R.locals) (hst : st0 = av.reverse ++ st) (hcat : (st.map fun v => v.category).sum ≤ 8) (hdg : decode cc pc = .ok (.invokestatic index, 3)) (hf : cells + rm.cells ≤ R.cells ∧ slots + rm.slots ≤ R.slots) :
    gRun p l e R s m args below meth c D AD A nL cells slots w lv pc st0 st rm.cells rm.slots (fun n => Qc n av.toArray) free := fun H locs ls hP hD hS hl =>
  va_runS B (hM H.size) (va_cwS av.length B.2.2.2.2 hT hw rfl rfl hd hR) ⟨hp.1 _, fun U hU hW => hp.2 H U locs hP hD hS hU hW⟩ rfl rfl hl.1 hst (lv_room hcat) hdg hf
theorem g_runSN {host : String} (B : CallFix p m c cc nL s args Ts own) (hN : NWs s) (hM : ∀ n, Met l y ws rm (Pc n) (Qc n) rm.cells rm.slots (free n)) (hp : gPre s D AD A w Pc av) (hT : GoodIn Ts ws) (hini : Cond.initialized y.cls ∈ Ts) (hsta : Cond.static y ∈ Ts) (qn : Nat) (hlink : NWM[qn]? = some (own, index, y, host)) (hw : ws = Cond.code y bytes maxL ret :: ws') (hd : y.cls ≠ "java/lang/invoke/MethodHandle" ∧ y.cls ≠ "java/lang/invoke/VarHandle" ∧ (parseMethodDescriptor y.desc).map (fun d => d.parameters.length) = some av.length) (hR : rm.frames + 1 ≤ R.frames ∧ 8 + (maxL + 11) + rm.locals ≤ R.locals) (hst : st0 = av.reverse ++ st) (hcat : (st.map fun v => v.category).sum ≤ 8) (hdg : decode cc pc = .ok (.invokestatic index, 3)) (hf : cells + rm.cells ≤ R.cells ∧ slots + rm.slots ≤ R.slots) :
    gRun p l e R s m args below meth c D AD A nL cells slots w lv pc st0 st rm.cells rm.slots (fun n => Qc n av.toArray) free := fun H locs ls hP hD hS hl =>
  va_runSN B (hM H.size) ⟨va_cnB av.length B.2.2.2.2 hT hw rfl rfl (hN.2.1 _ (List.mem_of_getElem? hlink)) (B.2.2.2.2 _ hini) hd hR, B.2.2.2.2 _ hsta, trivial⟩ ⟨hp.1 _, fun U hU hW => hp.2 H U locs hP hD hS hU hW⟩ rfl rfl hl.1 hst (lv_room hcat) hdg hf
theorem g_runV {av' : List Value} {b ci q0 : Nat} {fs : List Value} {r : vw_C} (B : CallFix p m c cc nL s args Ts own) (hK : va_K D vwCl tys s) (he : w[q0]? = some (b, .inr (ci, fs))) (hc : vwCl[ci]? = some r) (hM : ∀ n, Met l y ws rm (Pc n) (Qc n) rm.cells rm.slots (free n)) (hp : gPre s D AD A w Pc (.ref b :: av')) (hT : GoodIn Ts (wsV own index r.1 y ws)) (hw : ws = Cond.code y bytes maxL ret :: ws') (hyc : y.cls = r.1) (hd : y.cls ≠ "java/lang/invoke/MethodHandle" ∧ y.cls ≠ "java/lang/invoke/VarHandle" ∧ (parseMethodDescriptor y.desc).map (fun d => d.parameters.length) = some av'.length) (hR : rm.frames + 1 ≤ R.frames ∧ 8 + (maxL + 11) + rm.locals ≤ R.locals) (hst : st0 = av'.reverse ++ .ref b :: st) (hcat : (st.map fun v => v.category).sum ≤ 8) (hdg : decode cc pc = .ok (.invokevirtual index, 3)) (hf : cells + rm.cells ≤ R.cells ∧ slots + rm.slots ≤ R.slots) :
    gRun p l e R s m args below meth c D AD A nL cells slots w lv pc st0 st rm.cells rm.slots (fun n => Qc n (Value.ref b :: av').toArray) free := fun H locs ls hP hD hS hl =>
  va_runV B (hM H.size) (cwV av'.length B.2.2.2.2 hT hw rfl rfl ⟨hyc, hd⟩ hR) ⟨hp.1 _, va_recv hK hP hc he, fun U hU hW => hp.2 H U locs hP hD hS hU hW⟩ rfl rfl hl.1 hst (lv_room hcat) hdg hf
theorem g_runI {av' : List Value} {b : Nat} (B : CallFix p m c cc nL s args Ts own) (hM : ∀ n, Met l y ws rm (Pc n) (Qc n) rm.cells rm.slots (free n)) (hp : gPre s D AD A w Pc (.ref b :: av')) (hT : GoodIn Ts ws) (hini : Cond.initialized y.cls ∈ Ts) (hlink : Cond.methodLink own index y ∈ Ts) (hins : Cond.instanceMethod y ∈ Ts) (hy1 : y.name = "<init>") (hw : ws = Cond.code y bytes maxL none :: ws') (hd : y.cls ≠ "java/lang/invoke/MethodHandle" ∧ y.cls ≠ "java/lang/invoke/VarHandle" ∧ (parseMethodDescriptor y.desc).map (fun d => d.parameters.length) = some av'.length) (hR : rm.frames + 1 ≤ R.frames ∧ 8 + (maxL + 11) + rm.locals ≤ R.locals) (hst : st0 = av'.reverse ++ .ref b :: st) (hcat : (st.map fun v => v.category).sum ≤ 8) (hdg : decode cc pc = .ok (.invokespecial index, 3)) (hf : cells + rm.cells ≤ R.cells ∧ slots + rm.slots ≤ R.slots) :
    gRun p l e R s m args below meth c D AD A nL cells slots w lv pc st0 st rm.cells rm.slots (fun n => Qc n (Value.ref b :: av').toArray) free := fun H locs ls hP hD hS hl =>
  va_runI B (hM H.size) (cwI av'.length B.2.2.2.2 hT hw rfl rfl (B.2.2.2.2 _ hini) (B.2.2.2.2 _ hlink) (B.2.2.2.2 _ hins) hy1 hd hR) ⟨hp.1 _, fun U hU hW => hp.2 H U locs hP hD hS hU hW⟩ rfl rfl hl.1 hst (lv_room hcat) hdg hf
theorem g_runIN {host : String} {av' : List Value} {b : Nat} (B : CallFix p m c cc nL s args Ts own) (hN : NWs s) (hM : ∀ n, Met l y ws rm (Pc n) (Qc n) rm.cells rm.slots (free n)) (hp : gPre s D AD A w Pc (.ref b :: av')) (hT : GoodIn Ts ws) (hini : Cond.initialized y.cls ∈ Ts) (qn : Nat) (hlink : NWM[qn]? = some (own, index, y, host)) (hins : Cond.instanceMethod y ∈ Ts) (hy1 : y.name = "<init>") (hw : ws = Cond.code y bytes maxL none :: ws') (hd : y.cls ≠ "java/lang/invoke/MethodHandle" ∧ y.cls ≠ "java/lang/invoke/VarHandle" ∧ (parseMethodDescriptor y.desc).map (fun d => d.parameters.length) = some av'.length) (hR : rm.frames + 1 ≤ R.frames ∧ 8 + (maxL + 11) + rm.locals ≤ R.locals) (hst : st0 = av'.reverse ++ .ref b :: st) (hcat : (st.map fun v => v.category).sum ≤ 8) (hdg : decode cc pc = .ok (.invokespecial index, 3)) (hf : cells + rm.cells ≤ R.cells ∧ slots + rm.slots ≤ R.slots) :
    gRun p l e R s m args below meth c D AD A nL cells slots w lv pc st0 st rm.cells rm.slots (fun n => Qc n (Value.ref b :: av').toArray) free := fun H locs ls hP hD hS hl =>
  va_runIN B (hM H.size) ⟨va_cnB av'.length B.2.2.2.2 hT hw rfl rfl (hN.2.1 _ (List.mem_of_getElem? hlink)) (B.2.2.2.2 _ hini) hd hR, hy1, B.2.2.2.2 _ hins⟩ ⟨hp.1 _, fun U hU hW => hp.2 H U locs hP hD hS hU hW⟩ rfl rfl hl.1 hst (lv_room hcat) hdg hf
/-- behind a call that changes no old cell -/
theorem g_callP {S : Type} {post : S → Prop} {v : S → Option Value} {mc ms : Nat} {a : Array Value} (hr : gRun p l e R s m args below meth c D AD A nL cells slots w lv pc st0 st mc ms (fun _ => gQp post v a) (fun _ _ => False))
    (kk : ∀ u : S, post u → G p l e R s m args below meth c Q D AD A nL (cells + mc) (slots + ms) w lv (pc + 3) ((v u).toList ++ st)) : G p l e R s m args below meth c Q D AD A nL cells slots w lv pc st0 := by
  intro H locs ls hP hD hS hl T hT X
  obtain ⟨vv, st₀, t, T', L, h0, X', hL, e1, e2, ⟨u, hv, hp, hz, hk⟩, hgo⟩ := hr H locs ls hP hD hS hl T hT X
  cases hv
  rw [h0] at hz hk
  have hk1 : ∀ q : Nat, q < H.size → T'.heap[q]? = H[q]? := fun q h1 => by rw [e1]; exact hk q h1 (fun h => h)
  obtain ⟨t2, a1, b1⟩ := kk u hp T'.heap (locs ++ L) ls (hP.kept (fun k q hq => hk1 q.1 (hP k q hq).lt)) hD ⟨Nat.le_trans hS.1 (by rw [e1]; exact hz), fun q h1 h2 => by rw [hk1 q (Nat.lt_of_lt_of_le h1 hS.1)]; exact hS.2.1 q h1 h2, fun q hq => (List.mem_append.mp hq).elim (hS.2.2 q) (fun h => (hL q h).elim)⟩ hl T' rfl X'
  exact ⟨t2, hgo t2 a1, b1⟩
/-- behind a call that changes its world: the caller's other cells stay -/
theorem g_callW {S : Type} {post : S → Prop} {v : S → Option Value} {w' : S → va_W} {mc ms : Nat} {a : Array Value} {wc wr : va_W} {w2 : S → va_W} (hr : gRun p l e R s m args below meth c D AD A nL cells slots w lv pc st0 st mc ms (fun n => gQw D post v w' (va_A wc n) a) (fun n => va_A wc n))
    (hA : ∀ q, s.heap.size ≤ q → AD q) (hAD : ∀ q, AD q → A q) (isC isR : List Nat) (hC : isC.map (fun i => w[i]?) = wc.map some) (hR : isR.map (fun i => w[i]?) = wr.map some) (hn : va_nd isR = true) (hdis : ∀ i ∈ isR, i ∉ isC) (perm : List Nat) (hpn : va_nd perm = true) (hperm : ∀ u : S, perm.map (fun i => (wr ++ w' u)[i]?) = (w2 u).map some)
    (kk : ∀ u : S, post u → G p l e R s m args below meth c Q D AD A nL (cells + mc) (slots + ms) (w2 u) lv (pc + 3) ((v u).toList ++ st)) : G p l e R s m args below meth c Q D AD A nL cells slots w lv pc st0 := by
  intro H locs ls hP hD hS hl T hT X
  obtain ⟨vv, st₀, t, T', L, h0, X', hL, e1, e2, ⟨u, hv, hp, hP1, hD1, hz, hk⟩, hgo⟩ := hr H locs ls hP hD hS hl T hT X
  cases hv
  rw [h0] at hz hk
  rw [← e1] at hP1
  have hF : ∀ q, va_A wc H.size q → AD q := fun q h => by
    rcases h with ⟨k, ee, h⟩ | h
    · have h1 : (isC.map (fun i => w[i]?))[k]? = some (some (q, ee)) := by rw [hC, List.getElem?_map, h]; rfl
      rw [List.getElem?_map] at h1
      cases hi : isC[k]? with
      | none => rw [hi] at h1; cases h1
      | some i => rw [hi] at h1; exact hD.2 i (q, ee) (Option.some.inj h1)
    · exact hA q (Nat.le_trans hS.1 h)
  have hk1 : ∀ q : Nat, q < H.size → ¬ va_A wc H.size q → T'.heap[q]? = H[q]? := fun q h1 h2 => by rw [e1]; exact hk q h1 h2
  obtain ⟨hPj, hDj⟩ := va_join hP hD isC isR hC hR hn hdis hk1 hF hP1 hD1
  obtain ⟨t2, a1, b1⟩ := kk u hp T'.heap (locs ++ L) ls (gP_sub hPj perm (hperm u)) (hDj.sub perm hpn (hperm u)) ⟨Nat.le_trans hS.1 (by rw [e1]; exact hz), fun q h1 h2 => by rw [hk1 q (Nat.lt_of_lt_of_le h1 hS.1) (fun h => h2 (hAD q (hF q h)))]; exact hS.2.1 q h1 h2, fun q hq => (List.mem_append.mp hq).elim (hS.2.2 q) (fun h => hAD _ (hF _ (hL q h)))⟩ hl T' rfl X'
  exact ⟨t2, hgo t2 a1, b1⟩
end GL2
section GL3
variable {p : Program} {l : Launch} {e : Env} {R : Room} {s : State} {m : MethodId} {args : Array Value} {below : List Frame} {meth : Method} {c : Code} {Q : State → Prop} {D : va_G} {AD A : Nat → Prop} {nL cells slots : Nat} {w : va_W} {lv : List (Nat × Value)} {pc : Nat} {st : List Value}
theorem g_loop {σ : Type} (I : σ → Prop) (μ cl sl : σ → Nat) (wf : σ → va_W) (lf : σ → List (Nat × Value)) (hs : ∀ x : σ, I x → (∀ y : σ, I y → μ y < μ x → G p l e R s m args below meth c Q D AD A nL (cl y) (sl y) (wf y) (lf y) pc st) → G p l e R s m args below meth c Q D AD A nL (cl x) (sl x) (wf x) (lf x) pc st) (x : σ) (h : I x) (hw : w = wf x) (hl : lv = lf x) (hc : cells = cl x) (hsl : slots = sl x) : G p l e R s m args below meth c Q D AD A nL cells slots w lv pc st := by
  subst hw; subst hl; subst hc; subst hsl
  have key : ∀ (n : Nat) (x : σ), μ x < n → I x → G p l e R s m args below meth c Q D AD A nL (cl x) (sl x) (wf x) (lf x) pc st := by
    intro n
    induction n with
    | zero => intro x h; exact absurd h (Nat.not_lt_zero _)
    | succ n ih => intro x hx hI; exact hs x hI (fun y hy hlt => ih y (by omega) hy)
  exact key (μ x + 1) x (Nat.lt_succ_self _) h
variable {cc : ByteArray} {Ts : List Cond} {own : String}
theorem g_nt {P : Prop} {x y : Int32} (a b : Nat) (hx : x = nI a) (hy : y = nI b) (ha : a < 2 ^ 31) (hb : b < 2 ^ 31) (h : a < b → P) : x < y → P := fun q => h ((nI_ltI ha hb).mp (by rw [← hx, ← hy]; exact q))
theorem g_ncmp_lt (B : CallFix p m c cc nL s args Ts own) {x y : Int32} {off : Int} {tgt : Nat} (a b : Nat) (hx : x = nI a) (hy : y = nI b) (ha : a < 2 ^ 31) (hb : b < 2 ^ 31) (hdg : decode cc pc = .ok (.if_icmp .lt off, 3)) (ht : (pc : Int) + off = (tgt : Int)) (kt : a < b → G p l e R s m args below meth c Q D AD A nL cells slots w lv tgt st) (kf : ¬ (a < b) → G p l e R s m args below meth c Q D AD A nL cells slots w lv (pc + 3) st) : G p l e R s m args below meth c Q D AD A nL cells slots w lv pc (.int y :: .int x :: st) := by
  subst hx; subst hy
  exact g_icmp_lt B hdg ht (fun h => kt ((nI_ltI ha hb).mp h)) (fun h => kf (fun h2 => h ((nI_ltI ha hb).mpr h2)))
theorem g_ncmp_ge (B : CallFix p m c cc nL s args Ts own) {x y : Int32} {off : Int} {tgt : Nat} (a b : Nat) (hx : x = nI a) (hy : y = nI b) (ha : a < 2 ^ 31) (hb : b < 2 ^ 31) (hdg : decode cc pc = .ok (.if_icmp .ge off, 3)) (ht : (pc : Int) + off = (tgt : Int)) (kt : b ≤ a → G p l e R s m args below meth c Q D AD A nL cells slots w lv tgt st) (kf : ¬ (b ≤ a) → G p l e R s m args below meth c Q D AD A nL cells slots w lv (pc + 3) st) : G p l e R s m args below meth c Q D AD A nL cells slots w lv pc (.int y :: .int x :: st) := by
  subst hx; subst hy
  exact g_icmp_ge B hdg ht (fun h => kt ((nI_leI hb ha).mp h)) (fun h => kf (fun h2 => h ((nI_leI hb ha).mpr h2)))
theorem g_ncmp_gt (B : CallFix p m c cc nL s args Ts own) {x y : Int32} {off : Int} {tgt : Nat} (a b : Nat) (hx : x = nI a) (hy : y = nI b) (ha : a < 2 ^ 31) (hb : b < 2 ^ 31) (hdg : decode cc pc = .ok (.if_icmp .gt off, 3)) (ht : (pc : Int) + off = (tgt : Int)) (kt : b < a → G p l e R s m args below meth c Q D AD A nL cells slots w lv tgt st) (kf : ¬ (b < a) → G p l e R s m args below meth c Q D AD A nL cells slots w lv (pc + 3) st) : G p l e R s m args below meth c Q D AD A nL cells slots w lv pc (.int y :: .int x :: st) := by
  subst hx; subst hy
  exact g_icmp_gt B hdg ht (fun h => kt ((nI_ltI hb ha).mp h)) (fun h => kf (fun h2 => h ((nI_ltI hb ha).mpr h2)))
theorem g_ncmp_le (B : CallFix p m c cc nL s args Ts own) {x y : Int32} {off : Int} {tgt : Nat} (a b : Nat) (hx : x = nI a) (hy : y = nI b) (ha : a < 2 ^ 31) (hb : b < 2 ^ 31) (hdg : decode cc pc = .ok (.if_icmp .le off, 3)) (ht : (pc : Int) + off = (tgt : Int)) (kt : a ≤ b → G p l e R s m args below meth c Q D AD A nL cells slots w lv tgt st) (kf : ¬ (a ≤ b) → G p l e R s m args below meth c Q D AD A nL cells slots w lv (pc + 3) st) : G p l e R s m args below meth c Q D AD A nL cells slots w lv pc (.int y :: .int x :: st) := by
  subst hx; subst hy
  exact g_icmp_le B hdg ht (fun h => kt ((nI_leI ha hb).mp h)) (fun h => kf (fun h2 => h ((nI_leI ha hb).mpr h2)))
theorem g_ncmp_eq (B : CallFix p m c cc nL s args Ts own) {x y : Int32} {off : Int} {tgt : Nat} (a b : Nat) (hx : x = nI a) (hy : y = nI b) (ha : a < 2 ^ 31) (hb : b < 2 ^ 31) (hdg : decode cc pc = .ok (.if_icmp .eq off, 3)) (ht : (pc : Int) + off = (tgt : Int)) (kt : a = b → G p l e R s m args below meth c Q D AD A nL cells slots w lv tgt st) (kf : ¬ (a = b) → G p l e R s m args below meth c Q D AD A nL cells slots w lv (pc + 3) st) : G p l e R s m args below meth c Q D AD A nL cells slots w lv pc (.int y :: .int x :: st) := by
  subst hx; subst hy
  exact g_icmp_eq B hdg ht (fun h => kt ((nI_eq ha hb).mp h)) (fun h => kf (fun h2 => h ((nI_eq ha hb).mpr h2)))
theorem g_ncmp_ne (B : CallFix p m c cc nL s args Ts own) {x y : Int32} {off : Int} {tgt : Nat} (a b : Nat) (hx : x = nI a) (hy : y = nI b) (ha : a < 2 ^ 31) (hb : b < 2 ^ 31) (hdg : decode cc pc = .ok (.if_icmp .ne off, 3)) (ht : (pc : Int) + off = (tgt : Int)) (kt : ¬ (a = b) → G p l e R s m args below meth c Q D AD A nL cells slots w lv tgt st) (kf : a = b → G p l e R s m args below meth c Q D AD A nL cells slots w lv (pc + 3) st) : G p l e R s m args below meth c Q D AD A nL cells slots w lv pc (.int y :: .int x :: st) := by
  subst hx; subst hy
  exact g_icmp_ne B hdg ht (fun h => kt (fun h2 => h ((nI_eq ha hb).mpr h2))) (fun h => kf ((nI_eq ha hb).mp h))
theorem g_nif_eq (B : CallFix p m c cc nL s args Ts own) {x : Int32} {off : Int} {tgt : Nat} (a : Nat) (hx : x = nI a) (ha : a < 2 ^ 31) (hdg : decode cc pc = .ok (.ifCond .eq off, 3)) (ht : (pc : Int) + off = (tgt : Int)) (kt : a = 0 → G p l e R s m args below meth c Q D AD A nL cells slots w lv tgt st) (kf : ¬ (a = 0) → G p l e R s m args below meth c Q D AD A nL cells slots w lv (pc + 3) st) : G p l e R s m args below meth c Q D AD A nL cells slots w lv pc (.int x :: st) := by
  subst hx
  exact g_if_eq B hdg ht (fun h => kt ((nI_eq ha (by decide)).mp (h.trans nI_0.symm))) (fun h => kf (fun h2 => h (by subst h2; exact nI_0)))
theorem g_nif_ne (B : CallFix p m c cc nL s args Ts own) {x : Int32} {off : Int} {tgt : Nat} (a : Nat) (hx : x = nI a) (ha : a < 2 ^ 31) (hdg : decode cc pc = .ok (.ifCond .ne off, 3)) (ht : (pc : Int) + off = (tgt : Int)) (kt : ¬ (a = 0) → G p l e R s m args below meth c Q D AD A nL cells slots w lv tgt st) (kf : a = 0 → G p l e R s m args below meth c Q D AD A nL cells slots w lv (pc + 3) st) : G p l e R s m args below meth c Q D AD A nL cells slots w lv pc (.int x :: st) := by
  subst hx
  exact g_if_ne B hdg ht (fun h => kt (fun h2 => h (by subst h2; exact nI_0))) (fun h => kf ((nI_eq ha (by decide)).mp (h.trans nI_0.symm)))
theorem g_nif_lt (B : CallFix p m c cc nL s args Ts own) {x : Int32} {off : Int} {tgt : Nat} (a : Nat) (hx : x = nI a) (ha : a < 2 ^ 31) (hdg : decode cc pc = .ok (.ifCond .lt off, 3)) (ht : (pc : Int) + off = (tgt : Int)) (kf : G p l e R s m args below meth c Q D AD A nL cells slots w lv (pc + 3) st) : G p l e R s m args below meth c Q D AD A nL cells slots w lv pc (.int x :: st) := by
  subst hx
  exact g_if_lt B hdg ht (fun h => absurd h (nI_pos ha)) (fun _ => kf)
theorem g_nif_ge (B : CallFix p m c cc nL s args Ts own) {x : Int32} {off : Int} {tgt : Nat} (a : Nat) (hx : x = nI a) (ha : a < 2 ^ 31) (hdg : decode cc pc = .ok (.ifCond .ge off, 3)) (ht : (pc : Int) + off = (tgt : Int)) (kt : G p l e R s m args below meth c Q D AD A nL cells slots w lv tgt st) : G p l e R s m args below meth c Q D AD A nL cells slots w lv pc (.int x :: st) := by
  subst hx
  exact g_if_ge B hdg ht (fun _ => kt) (fun h => absurd (nI_pos' ha) h)
theorem g_nif_gt (B : CallFix p m c cc nL s args Ts own) {x : Int32} {off : Int} {tgt : Nat} (a : Nat) (hx : x = nI a) (ha : a < 2 ^ 31) (hdg : decode cc pc = .ok (.ifCond .gt off, 3)) (ht : (pc : Int) + off = (tgt : Int)) (kt : 0 < a → G p l e R s m args below meth c Q D AD A nL cells slots w lv tgt st) (kf : ¬ (0 < a) → G p l e R s m args below meth c Q D AD A nL cells slots w lv (pc + 3) st) : G p l e R s m args below meth c Q D AD A nL cells slots w lv pc (.int x :: st) := by
  subst hx
  exact g_if_gt B hdg ht (fun h => kt ((nI_ltI (by decide) ha).mp (by rw [nI_0]; exact h))) (fun h => kf (fun h2 => h (by rw [← nI_0]; exact (nI_ltI (by decide) ha).mpr h2)))
theorem g_nif_le (B : CallFix p m c cc nL s args Ts own) {x : Int32} {off : Int} {tgt : Nat} (a : Nat) (hx : x = nI a) (ha : a < 2 ^ 31) (hdg : decode cc pc = .ok (.ifCond .le off, 3)) (ht : (pc : Int) + off = (tgt : Int)) (kt : a = 0 → G p l e R s m args below meth c Q D AD A nL cells slots w lv tgt st) (kf : ¬ (a = 0) → G p l e R s m args below meth c Q D AD A nL cells slots w lv (pc + 3) st) : G p l e R s m args below meth c Q D AD A nL cells slots w lv pc (.int x :: st) := by
  subst hx
  exact g_if_le B hdg ht (fun h => kt (by have h3 : nI a ≤ nI 0 := (by rw [nI_0]; exact h); have h4 := (nI_leI (b := 0) ha (by decide)).mp h3; omega)) (fun h => kf (fun h2 => h (by subst h2; rw [nI_0]; decide)))
end GL3
def updN (g : Nat → Nat) (k x : Nat) : Nat → Nat := fun j => if j = k then x else g j
theorem upd_nI (g : Nat → Nat) (k x : Nat) : upd (fun i => nI (g i)) k (nI x) = (fun i => nI (updN g k x i)) := by
  funext j
  by_cases h : j = k <;> simp [upd, updN, h]
def lShr (x : Int64) (y : Int32) : Int64 := (x.toUInt64 >>> (y.toInt64.toUInt64 &&& Int64.toUInt64 63)).toInt64
def lShl (x : Int64) (y : Int32) : Int64 := x <<< (y.toInt64 &&& 63)
/-- a truth as the machine's int -/
def bI (b : Bool) : Int32 := if b then 1 else 0
