/-! MY LAYER: contracts and the judgement G over worlds, locals and stack as lists -/
abbrev gTys (cI cL cZ cQ : ClassId) : List (ClassId × FieldType) := [(cI, .int), (cL, .long), (cZ, .boolean), (cQ, .array .int)]
def NWF : List (String × Nat × String × String × String × String) := [("TestkitchenBench", 100, "TestkitchenBench$Trace", "finds", "J", "TestkitchenBench"), ("TestkitchenBench", 122, "TestkitchenBench$Generator", "state", "I", "TestkitchenBench"), ("TestkitchenBench", 142, "TestkitchenBench$Archive", "mutations", "[I", "TestkitchenBench"), ("TestkitchenBench", 145, "TestkitchenBench$Archive", "tests", "[I", "TestkitchenBench"), ("TestkitchenBench", 151, "TestkitchenBench$Archive", "count", "I", "TestkitchenBench"), ("TestkitchenBench", 165, "TestkitchenBench$Archive", "results", "[I", "TestkitchenBench"), ("TestkitchenBench", 168, "TestkitchenBench$Archive", "finds", "[J", "TestkitchenBench"), ("TestkitchenBench", 171, "TestkitchenBench$Archive", "kept", "J", "TestkitchenBench"), ("TestkitchenBench", 205, "TestkitchenBench$Relations", "count", "I", "TestkitchenBench"), ("TestkitchenBench", 240, "TestkitchenBench$Program", "slots", "[I", "TestkitchenBench"), ("TestkitchenBench", 243, "TestkitchenBench$Program", "hows", "[I", "TestkitchenBench"), ("TestkitchenBench", 246, "TestkitchenBench$Program", "bounds", "[I", "TestkitchenBench"), ("TestkitchenBench", 304, "TestkitchenBench$Trace", "result", "I", "TestkitchenBench"), ("TestkitchenBench", 85, "TestkitchenBench$Trace", "steps", "I", "TestkitchenBench"), ("TestkitchenBench", 96, "TestkitchenBench$Trace", "path", "[I", "TestkitchenBench"), ("TestkitchenBench$Archive", 41, "TestkitchenBench$Trace", "result", "I", "TestkitchenBench"), ("TestkitchenBench$Archive", 46, "TestkitchenBench$Trace", "finds", "J", "TestkitchenBench")]
def NWM : List (String × Nat × MethodName × String) := [("TestkitchenBench", 18, ⟨"TestkitchenBench$Trace", "<init>", "()V"⟩, "TestkitchenBench"), ("TestkitchenBench", 32, ⟨"TestkitchenBench$Archive", "<init>", "()V"⟩, "TestkitchenBench"), ("TestkitchenBench", 39, ⟨"TestkitchenBench$Relations", "<init>", "()V"⟩, "TestkitchenBench"), ("TestkitchenBench$Archive", 29, ⟨"TestkitchenBench", "contains", "(JI)Z"⟩, "TestkitchenBench"), ("TestkitchenBench$Archive", 37, ⟨"TestkitchenBench", "bit", "(I)J"⟩, "TestkitchenBench"), ("TestkitchenBench$Archive", 62, ⟨"TestkitchenBench", "edgesIn", "(J)I"⟩, "TestkitchenBench"), ("TestkitchenBench$Generator", 38, ⟨"TestkitchenBench", "valueOf", "(II)I"⟩, "TestkitchenBench"), ("TestkitchenBench$Generator", 42, ⟨"TestkitchenBench", "withValue", "(III)I"⟩, "TestkitchenBench"), ("TestkitchenBench$Program", 39, ⟨"TestkitchenBench", "isNode", "(I)Z"⟩, "TestkitchenBench"), ("TestkitchenBench$Program", 54, ⟨"TestkitchenBench", "valueOf", "(II)I"⟩, "TestkitchenBench"), ("TestkitchenBench$Program", 58, ⟨"TestkitchenBench", "contains", "(JI)Z"⟩, "TestkitchenBench"), ("TestkitchenBench$Program", 62, ⟨"TestkitchenBench", "bit", "(I)J"⟩, "TestkitchenBench"), ("TestkitchenBench$Relations", 25, ⟨"TestkitchenBench", "valueOf", "(II)I"⟩, "TestkitchenBench"), ("TestkitchenBench$Relations", 34, ⟨"TestkitchenBench", "withValue", "(III)I"⟩, "TestkitchenBench"), ("TestkitchenBench$Trace", 26, ⟨"TestkitchenBench", "bit", "(I)J"⟩, "TestkitchenBench"), ("TestkitchenBench$Trace", 30, ⟨"TestkitchenBench", "outcomeOf", "(I)I"⟩, "TestkitchenBench"), ("TestkitchenBenchLaw$Bench", 41, ⟨"TestkitchenBenchLaw", "cell", "([II)I"⟩, "TestkitchenBenchLaw"), ("TestkitchenBenchLaw$Bench", 47, ⟨"TestkitchenBenchLaw", "below", "(II)I"⟩, "TestkitchenBenchLaw")]
/-- rows of rows of ints: their class is there -/
def AOq (U : State) : Prop := (Cond.arrayOver (.array .int)).before #[] U = true
theorem AOq.moved {u U : State} (hvm : u.vm.Alike U.vm) (h : AOq u) : AOq U := by
  obtain ⟨comp, c, k, h1, h2, h3, h4, h5⟩ := arrayOverA_spec h
  obtain ⟨k', hk', he⟩ := hvm.2.2 _ _ h3
  have hi : (U.vm.classes.findIdx? fun (x : Class) => match x.kind with | .array component _ => component == comp | _ => false) = some c := by
    rw [hvm.findIdx?_eq _ (fun _ => rfl)]
    exact h2
  have hkind : k'.kind = .array comp (.array .int) := by rw [he]; exact h4
  have f1 : U.vm.findClass (FieldType.array .int).toString = some comp := by rw [hvm.findClass]; exact h1
  have f2 : U.vm.findClass ("[" ++ (FieldType.array .int).toString) = some c := by rw [hvm.findClass]; exact h5
  unfold AOq Cond.before Cond.holds
  simp only [Cond.value]
  rw [f1, Option.bind_some]
  refine (congrArg (fun o : Option Nat => (o.bind (fun c => (U.vm.classes[c]?).map fun (k : Class) => match k.kind with | .array _ ty => decide (ty = FieldType.array .int) && decide (U.vm.findClass ("[" ++ (FieldType.array .int).toString) = some c) | _ => false) == some true)) hi).trans ?_
  simp [hk', hkind, f2]
def NWs (U : State) : Prop := (∀ q ∈ NWF, va_Nw (.fieldLinkNest q.1 q.2.1 q.2.2.1 q.2.2.2.1 q.2.2.2.2.1 q.2.2.2.2.2) U) ∧ (∀ q ∈ NWM, va_Nw (.methodLinkNest q.1 q.2.1 q.2.2.1 q.2.2.2) U) ∧ AOq U
theorem NWs.warm {s U : State} (hW : s.WarmedH U.vm) (h : NWs s) : NWs U := ⟨fun q hq => va_Nw.warmF hW (h.1 q hq), fun q hq => va_Nw.warmM hW (h.2.1 q hq), h.2.2.moved hW.alike⟩
theorem NWs.same {u U : State} (hv : u.vm = U.vm) (h : NWs u) : NWs U := ⟨fun q hq => va_Nw.same rfl hv (h.1 q hq), fun q hq => va_Nw.same rfl hv (h.2.1 q hq), h.2.2.moved (by rw [hv]; exact Vm.Alike.refl _)⟩
def gB (D : va_G) (tys : List (ClassId × FieldType)) (w : va_W) (U : State) : Prop := va_P D vwCl w U.heap ∧ va_K D vwCl tys U ∧ NWs U
theorem gB.calling {D : va_G} {tys : List (ClassId × FieldType)} {w : va_W} {U : State} (h : gB D tys w U) (g : JFrame) (mk : MethodId) (a : Array Value) : gB D tys w (U.calling g mk a) := ⟨h.1, va_K.moved (u := U) (U := U.calling g mk a) (Vm.Alike.refl U.vm) h.2.1, NWs.same (u := U) rfl h.2.2⟩
theorem gB.at {D : va_G} {tys : List (ClassId × FieldType)} {w : va_W} {s U : State} {H : Heap} (hP : va_P D vwCl w H) (hK : va_K D vwCl tys s) (hN : NWs s) (hU : U.heap = H) (hW : s.WarmedH U.vm) : gB D tys w U := ⟨by rw [hU]; exact hP, va_K.moved hW.alike hK, hN.warm hW⟩
def gPp (D : va_G) (tys : List (ClassId × FieldType)) (av : List Value) (w : va_W) : Array Value → State → Prop := va_Pc av (fun U => va_D (fun _ => True) w ∧ gB D tys w U)
def gPw (D : va_G) (tys : List (ClassId × FieldType)) (av : List Value) (w : va_W) (sz : Nat) : Array Value → State → Prop := va_Pc av (fun U => U.heap.size = sz ∧ va_D (fun _ => True) w ∧ gB D tys w U)
theorem gPp.blind {D : va_G} {tys : List (ClassId × FieldType)} {av : List Value} {w : va_W} : FrameBlind (gPp D tys av w) := fun a U g mk q => ⟨q.1, q.2.1, q.2.2.calling g mk a⟩
theorem gPw.blind {D : va_G} {tys : List (ClassId × FieldType)} {av : List Value} {w : va_W} {sz : Nat} : FrameBlind (gPw D tys av w sz) := fun a U g mk q => ⟨q.1, q.2.1, q.2.2.1, q.2.2.2.calling g mk a⟩
def gQp {S : Type} (post : S → Prop) (v : S → Option Value) : Array Value → State → Outcome → State → Prop := fun _ st o t => ∃ u : S, o = .returned (v u) ∧ post u ∧ va_F (fun _ => False) st t
def gQw {S : Type} (D : va_G) (post : S → Prop) (v : S → Option Value) (w' : S → va_W) (A : Nat → Prop) : Array Value → State → Outcome → State → Prop := fun _ st o t => ∃ u : S, o = .returned (v u) ∧ post u ∧ va_P D vwCl (w' u) t.heap ∧ va_D A (w' u) ∧ va_F A st t
/-- a method that changes no old cell -/
def PM (l : Launch) (y : MethodName) (ws : List Cond) (rm : Room) (D : va_G) (tys : List (ClassId × FieldType)) (av : List Value) (w : va_W) {S : Type} (post : S → Prop) (v : S → Option Value) : Prop := Met l y ws rm (gPp D tys av w) (gQp post v) rm.cells rm.slots (fun _ => False)
/-- a method that changes its world -/
def WM (l : Launch) (y : MethodName) (ws : List Cond) (rm : Room) (D : va_G) (tys : List (ClassId × FieldType)) (av : List Value) (w : va_W) {S : Type} (post : S → Prop) (v : S → Option Value) (w' : S → va_W) : Prop := ∀ sz : Nat, Met l y ws rm (gPw D tys av w sz) (gQw D post v w' (va_A w sz)) rm.cells rm.slots (va_A w sz)
/-- the machine comes to Q from this place, whatever the heap that holds the world w -/
def G (p : Program) (l : Launch) (e : Env) (R : Room) (s : State) (m : MethodId) (args : Array Value) (below : List Frame) (meth : Method) (c : Code) (Q : State → Prop) (D : va_G) (AD A : Nat → Prop) (nL cells slots : Nat) (w : va_W) (lv : List (Nat × Value)) (pc : Nat) (st : List Value) : Prop :=
  ∀ (H : Heap) (locs : List Loc) (ls : Array Slot), va_P D vwCl w H → va_D AD w → va_S A s.heap H locs → lv_has ls nL lv → W p l e R s m args below meth c H locs cells slots Q (F0 m pc ls st)

section GL
variable {p : Program} {l : Launch} {e : Env} {R : Room} {s : State} {m : MethodId} {args : Array Value} {below : List Frame} {meth : Method} {c : Code} {Q : State → Prop} {D : va_G} {AD A : Nat → Prop} {nL cells slots : Nat} {w : va_W} {lv : List (Nat × Value)} {pc : Nat} {st : List Value} {cc : ByteArray} {Ts : List Cond} {own : String} {tys : List (ClassId × FieldType)}

theorem g_iconst (B : CallFix p m c cc nL s args Ts own) {n : Int} {v : Int32} (hdg : decode cc pc = .ok (.iconst n, 1)) (hv : Int32.ofInt n = v) (kk : G p l e R s m args below meth c Q D AD A nL cells slots w lv (pc + 1) (.int v :: st)) : G p l e R s m args below meth c Q D AD A nL cells slots w lv pc st := by
  intro H locs ls hP hD hS hl
  exact lv_iconst B.1 B.2.1 hdg hv (kk H locs ls hP hD hS hl)
theorem g_bipush (B : CallFix p m c cc nL s args Ts own) {n : Int} {v : Int32} (hdg : decode cc pc = .ok (.bipush n, 2)) (hv : (Int8.ofInt n).toInt32 = v) (kk : G p l e R s m args below meth c Q D AD A nL cells slots w lv (pc + 2) (.int v :: st)) : G p l e R s m args below meth c Q D AD A nL cells slots w lv pc st := by
  intro H locs ls hP hD hS hl
  exact lv_bipush B.1 B.2.1 hdg hv (kk H locs ls hP hD hS hl)
theorem g_sipush (B : CallFix p m c cc nL s args Ts own) {n : Int} {v : Int32} (hdg : decode cc pc = .ok (.sipush n, 3)) (hv : (Int16.ofInt n).toInt32 = v) (kk : G p l e R s m args below meth c Q D AD A nL cells slots w lv (pc + 3) (.int v :: st)) : G p l e R s m args below meth c Q D AD A nL cells slots w lv pc st := by
  intro H locs ls hP hD hS hl
  exact lv_sipush B.1 B.2.1 hdg hv (kk H locs ls hP hD hS hl)
theorem g_lconst (B : CallFix p m c cc nL s args Ts own) {n : Fin 2} {v : Int64} (hdg : decode cc pc = .ok (.lconst n, 1)) (hv : Int64.ofNat (n : Nat) = v) (kk : G p l e R s m args below meth c Q D AD A nL cells slots w lv (pc + 1) (.long v :: st)) : G p l e R s m args below meth c Q D AD A nL cells slots w lv pc st := by
  intro H locs ls hP hD hS hl
  exact lv_lconst B.1 B.2.1 hdg hv (kk H locs ls hP hD hS hl)
theorem g_dconst0 (B : CallFix p m c cc nL s args Ts own)  (hdg : decode cc pc = .ok (.dconst 0, 1))  (kk : G p l e R s m args below meth c Q D AD A nL cells slots w lv (pc + 1) (.double FP.dconst0 :: st)) : G p l e R s m args below meth c Q D AD A nL cells slots w lv pc st := by
  intro H locs ls hP hD hS hl
  exact lv_dconst0 B.1 B.2.1 hdg (kk H locs ls hP hD hS hl)
theorem g_ldc (B : CallFix p m c cc nL s args Ts own) {index : Nat} {v : Int32} (hdg : decode cc pc = .ok (.ldc index, 2)) (hc : Cond.constant own index v ∈ Ts) (kk : G p l e R s m args below meth c Q D AD A nL cells slots w lv (pc + 2) (.int v :: st)) : G p l e R s m args below meth c Q D AD A nL cells slots w lv pc st := by
  intro H locs ls hP hD hS hl
  exact lv_ldc B.1 B.2.1 B.2.2.2.1 (B.2.2.2.2 _ hc) hdg (kk H locs ls hP hD hS hl)
theorem g_ldc_w (B : CallFix p m c cc nL s args Ts own) {index : Nat} {v : Int32} (hdg : decode cc pc = .ok (.ldc_w index, 3)) (hc : Cond.constant own index v ∈ Ts) (kk : G p l e R s m args below meth c Q D AD A nL cells slots w lv (pc + 3) (.int v :: st)) : G p l e R s m args below meth c Q D AD A nL cells slots w lv pc st := by
  intro H locs ls hP hD hS hl
  exact lv_ldcw B.1 B.2.1 B.2.2.2.1 (B.2.2.2.2 _ hc) hdg (kk H locs ls hP hD hS hl)
theorem g_ldc2 (B : CallFix p m c cc nL s args Ts own) {index : Nat} {v : Int64} (hdg : decode cc pc = .ok (.ldc2_w index, 3)) (hc : Cond.constantLong own index v ∈ Ts) (kk : G p l e R s m args below meth c Q D AD A nL cells slots w lv (pc + 3) (.long v :: st)) : G p l e R s m args below meth c Q D AD A nL cells slots w lv pc st := by
  intro H locs ls hP hD hS hl
  exact lv_ldc2 B.1 B.2.1 B.2.2.2.1 (B.2.2.2.2 _ hc) hdg (kk H locs ls hP hD hS hl)
theorem g_iload_n (B : CallFix p m c cc nL s args Ts own) {k : Fin 4} {x : Int32} (hdg : decode cc pc = .ok (.iload_n k, 1)) (j : Nat) (hj : lv[j]? = some ((k : Nat), .int x)) (kk : G p l e R s m args below meth c Q D AD A nL cells slots w lv (pc + 1) (.int x :: st)) : G p l e R s m args below meth c Q D AD A nL cells slots w lv pc st := by
  intro H locs ls hP hD hS hl
  exact lv_iload_n B.1 B.2.1 hdg rfl (lv_at hl j hj) (kk H locs ls hP hD hS hl)
theorem g_iload (B : CallFix p m c cc nL s args Ts own) {i : Nat} {x : Int32} (hdg : decode cc pc = .ok (.iload i, 2)) (j : Nat) (hj : lv[j]? = some (i, .int x)) (kk : G p l e R s m args below meth c Q D AD A nL cells slots w lv (pc + 2) (.int x :: st)) : G p l e R s m args below meth c Q D AD A nL cells slots w lv pc st := by
  intro H locs ls hP hD hS hl
  exact lv_iload B.1 B.2.1 hdg (lv_at hl j hj) (kk H locs ls hP hD hS hl)
theorem g_istore_n (B : CallFix p m c cc nL s args Ts own) {k : Fin 4} {i : Nat} {x : Int32} {lv' : List (Nat × Value)} (hdg : decode cc pc = .ok (.istore_n k, 1)) (hi : (k : Nat) = i) (hn : i < nL) (ks : List Nat) (hl2 : lv_pick ((i, Value.int x) :: lv.filter (fun q => !(q.1 == i) && !(q.1 + 1 == i && q.2.category == 2))) ks = lv') (kk : G p l e R s m args below meth c Q D AD A nL cells slots w lv' (pc + 1) st) : G p l e R s m args below meth c Q D AD A nL cells slots w lv pc (.int x :: st) := by
  intro H locs ls hP hD hS hl
  exact lv_istore_n B.1 B.2.1 hdg hi hl hn rfl (fun ls2 h2 => kk H locs ls2 hP hD hS (lv_sub h2 ks hl2))
theorem g_istore (B : CallFix p m c cc nL s args Ts own) {i : Nat} {x : Int32} {lv' : List (Nat × Value)} (hdg : decode cc pc = .ok (.istore i, 2)) (hn : i < nL) (ks : List Nat) (hl2 : lv_pick ((i, Value.int x) :: lv.filter (fun q => !(q.1 == i) && !(q.1 + 1 == i && q.2.category == 2))) ks = lv') (kk : G p l e R s m args below meth c Q D AD A nL cells slots w lv' (pc + 2) st) : G p l e R s m args below meth c Q D AD A nL cells slots w lv pc (.int x :: st) := by
  intro H locs ls hP hD hS hl
  exact lv_istore B.1 B.2.1 hdg hl hn rfl (fun ls2 h2 => kk H locs ls2 hP hD hS (lv_sub h2 ks hl2))
theorem g_lload_n (B : CallFix p m c cc nL s args Ts own) {k : Fin 4} {x : Int64} (hdg : decode cc pc = .ok (.lload_n k, 1)) (j : Nat) (hj : lv[j]? = some ((k : Nat), .long x)) (kk : G p l e R s m args below meth c Q D AD A nL cells slots w lv (pc + 1) (.long x :: st)) : G p l e R s m args below meth c Q D AD A nL cells slots w lv pc st := by
  intro H locs ls hP hD hS hl
  exact lv_lload_n B.1 B.2.1 hdg rfl (lv_at hl j hj) (kk H locs ls hP hD hS hl)
theorem g_lload (B : CallFix p m c cc nL s args Ts own) {i : Nat} {x : Int64} (hdg : decode cc pc = .ok (.lload i, 2)) (j : Nat) (hj : lv[j]? = some (i, .long x)) (kk : G p l e R s m args below meth c Q D AD A nL cells slots w lv (pc + 2) (.long x :: st)) : G p l e R s m args below meth c Q D AD A nL cells slots w lv pc st := by
  intro H locs ls hP hD hS hl
  exact lv_lload B.1 B.2.1 hdg (lv_at hl j hj) (kk H locs ls hP hD hS hl)
theorem g_lstore_n (B : CallFix p m c cc nL s args Ts own) {k : Fin 4} {i : Nat} {x : Int64} {lv' : List (Nat × Value)} (hdg : decode cc pc = .ok (.lstore_n k, 1)) (hi : (k : Nat) = i) (hn : i + 1 < nL) (ks : List Nat) (hl2 : lv_pick ((i, Value.long x) :: lv.filter (fun q => !(q.1 == i) && (!(q.1 == i + 1) && !(q.1 + 1 == i && q.2.category == 2)))) ks = lv') (kk : G p l e R s m args below meth c Q D AD A nL cells slots w lv' (pc + 1) st) : G p l e R s m args below meth c Q D AD A nL cells slots w lv pc (.long x :: st) := by
  intro H locs ls hP hD hS hl
  exact lv_lstore_n B.1 B.2.1 hdg hi hl hn rfl (fun ls2 h2 => kk H locs ls2 hP hD hS (lv_sub h2 ks hl2))
theorem g_lstore (B : CallFix p m c cc nL s args Ts own) {i : Nat} {x : Int64} {lv' : List (Nat × Value)} (hdg : decode cc pc = .ok (.lstore i, 2)) (hn : i + 1 < nL) (ks : List Nat) (hl2 : lv_pick ((i, Value.long x) :: lv.filter (fun q => !(q.1 == i) && (!(q.1 == i + 1) && !(q.1 + 1 == i && q.2.category == 2)))) ks = lv') (kk : G p l e R s m args below meth c Q D AD A nL cells slots w lv' (pc + 2) st) : G p l e R s m args below meth c Q D AD A nL cells slots w lv pc (.long x :: st) := by
  intro H locs ls hP hD hS hl
  exact lv_lstore B.1 B.2.1 hdg hl hn rfl (fun ls2 h2 => kk H locs ls2 hP hD hS (lv_sub h2 ks hl2))
theorem g_aload_n (B : CallFix p m c cc nL s args Ts own) {k : Fin 4} {x : Nat} (hdg : decode cc pc = .ok (.aload_n k, 1)) (j : Nat) (hj : lv[j]? = some ((k : Nat), .ref x)) (kk : G p l e R s m args below meth c Q D AD A nL cells slots w lv (pc + 1) (.ref x :: st)) : G p l e R s m args below meth c Q D AD A nL cells slots w lv pc st := by
  intro H locs ls hP hD hS hl
  exact lv_aload_n B.1 B.2.1 hdg rfl (lv_at hl j hj) (kk H locs ls hP hD hS hl)
theorem g_aload (B : CallFix p m c cc nL s args Ts own) {i : Nat} {x : Nat} (hdg : decode cc pc = .ok (.aload i, 2)) (j : Nat) (hj : lv[j]? = some (i, .ref x)) (kk : G p l e R s m args below meth c Q D AD A nL cells slots w lv (pc + 2) (.ref x :: st)) : G p l e R s m args below meth c Q D AD A nL cells slots w lv pc st := by
  intro H locs ls hP hD hS hl
  exact lv_aload B.1 B.2.1 hdg (lv_at hl j hj) (kk H locs ls hP hD hS hl)
theorem g_astore_n (B : CallFix p m c cc nL s args Ts own) {k : Fin 4} {i : Nat} {x : Nat} {lv' : List (Nat × Value)} (hdg : decode cc pc = .ok (.astore_n k, 1)) (hi : (k : Nat) = i) (hn : i < nL) (ks : List Nat) (hl2 : lv_pick ((i, Value.ref x) :: lv.filter (fun q => !(q.1 == i) && !(q.1 + 1 == i && q.2.category == 2))) ks = lv') (kk : G p l e R s m args below meth c Q D AD A nL cells slots w lv' (pc + 1) st) : G p l e R s m args below meth c Q D AD A nL cells slots w lv pc (.ref x :: st) := by
  intro H locs ls hP hD hS hl
  exact lv_astore_n B.1 B.2.1 hdg hi hl hn rfl (fun ls2 h2 => kk H locs ls2 hP hD hS (lv_sub h2 ks hl2))
theorem g_astore (B : CallFix p m c cc nL s args Ts own) {i : Nat} {x : Nat} {lv' : List (Nat × Value)} (hdg : decode cc pc = .ok (.astore i, 2)) (hn : i < nL) (ks : List Nat) (hl2 : lv_pick ((i, Value.ref x) :: lv.filter (fun q => !(q.1 == i) && !(q.1 + 1 == i && q.2.category == 2))) ks = lv') (kk : G p l e R s m args below meth c Q D AD A nL cells slots w lv' (pc + 2) st) : G p l e R s m args below meth c Q D AD A nL cells slots w lv pc (.ref x :: st) := by
  intro H locs ls hP hD hS hl
  exact lv_astore B.1 B.2.1 hdg hl hn rfl (fun ls2 h2 => kk H locs ls2 hP hD hS (lv_sub h2 ks hl2))
theorem g_dload_n (B : CallFix p m c cc nL s args Ts own) {k : Fin 4} {x : UInt64} (hdg : decode cc pc = .ok (.dload_n k, 1)) (j : Nat) (hj : lv[j]? = some ((k : Nat), .double x)) (kk : G p l e R s m args below meth c Q D AD A nL cells slots w lv (pc + 1) (.double x :: st)) : G p l e R s m args below meth c Q D AD A nL cells slots w lv pc st := by
  intro H locs ls hP hD hS hl
  exact lv_dload_n B.1 B.2.1 hdg rfl (lv_at hl j hj) (kk H locs ls hP hD hS hl)
theorem g_dload (B : CallFix p m c cc nL s args Ts own) {i : Nat} {x : UInt64} (hdg : decode cc pc = .ok (.dload i, 2)) (j : Nat) (hj : lv[j]? = some (i, .double x)) (kk : G p l e R s m args below meth c Q D AD A nL cells slots w lv (pc + 2) (.double x :: st)) : G p l e R s m args below meth c Q D AD A nL cells slots w lv pc st := by
  intro H locs ls hP hD hS hl
  exact lv_dload B.1 B.2.1 hdg (lv_at hl j hj) (kk H locs ls hP hD hS hl)
theorem g_dstore_n (B : CallFix p m c cc nL s args Ts own) {k : Fin 4} {i : Nat} {x : UInt64} {lv' : List (Nat × Value)} (hdg : decode cc pc = .ok (.dstore_n k, 1)) (hi : (k : Nat) = i) (hn : i + 1 < nL) (ks : List Nat) (hl2 : lv_pick ((i, Value.double x) :: lv.filter (fun q => !(q.1 == i) && (!(q.1 == i + 1) && !(q.1 + 1 == i && q.2.category == 2)))) ks = lv') (kk : G p l e R s m args below meth c Q D AD A nL cells slots w lv' (pc + 1) st) : G p l e R s m args below meth c Q D AD A nL cells slots w lv pc (.double x :: st) := by
  intro H locs ls hP hD hS hl
  exact lv_dstore_n B.1 B.2.1 hdg hi hl hn rfl (fun ls2 h2 => kk H locs ls2 hP hD hS (lv_sub h2 ks hl2))
theorem g_dstore (B : CallFix p m c cc nL s args Ts own) {i : Nat} {x : UInt64} {lv' : List (Nat × Value)} (hdg : decode cc pc = .ok (.dstore i, 2)) (hn : i + 1 < nL) (ks : List Nat) (hl2 : lv_pick ((i, Value.double x) :: lv.filter (fun q => !(q.1 == i) && (!(q.1 == i + 1) && !(q.1 + 1 == i && q.2.category == 2)))) ks = lv') (kk : G p l e R s m args below meth c Q D AD A nL cells slots w lv' (pc + 2) st) : G p l e R s m args below meth c Q D AD A nL cells slots w lv pc (.double x :: st) := by
  intro H locs ls hP hD hS hl
  exact lv_dstore B.1 B.2.1 hdg hl hn rfl (fun ls2 h2 => kk H locs ls2 hP hD hS (lv_sub h2 ks hl2))
theorem g_iinc (B : CallFix p m c cc nL s args Ts own) {i : Nat} {n : Int} {x v : Int32} {lv' : List (Nat × Value)} (hdg : decode cc pc = .ok (.iinc i n, 3)) (j : Nat) (hj : lv[j]? = some (i, .int x)) (hv : x + Int32.ofInt n = v) (hn : i < nL) (ks : List Nat) (hl2 : lv_pick ((i, Value.int v) :: lv.filter (fun q => !(q.1 == i) && !(q.1 + 1 == i && q.2.category == 2))) ks = lv') (kk : G p l e R s m args below meth c Q D AD A nL cells slots w lv' (pc + 3) st) : G p l e R s m args below meth c Q D AD A nL cells slots w lv pc st := by
  intro H locs ls hP hD hS hl
  exact lv_iinc B.1 B.2.1 hdg hl hj hv hn rfl (fun ls2 h2 => kk H locs ls2 hP hD hS (lv_sub h2 ks hl2))
theorem g_iadd (B : CallFix p m c cc nL s args Ts own) {x y v : Int32} (hdg : decode cc pc = .ok (.iadd, 1)) (hv : x + y = v) (kk : G p l e R s m args below meth c Q D AD A nL cells slots w lv (pc + 1) (.int v :: st)) : G p l e R s m args below meth c Q D AD A nL cells slots w lv pc (.int y :: .int x :: st) := by
  intro H locs ls hP hD hS hl
  subst hv
  exact lv_iadd B.1 B.2.1 hdg (kk H locs ls hP hD hS hl)
theorem g_isub (B : CallFix p m c cc nL s args Ts own) {x y v : Int32} (hdg : decode cc pc = .ok (.isub, 1)) (hv : x - y = v) (kk : G p l e R s m args below meth c Q D AD A nL cells slots w lv (pc + 1) (.int v :: st)) : G p l e R s m args below meth c Q D AD A nL cells slots w lv pc (.int y :: .int x :: st) := by
  intro H locs ls hP hD hS hl
  subst hv
  exact lv_isub B.1 B.2.1 hdg (kk H locs ls hP hD hS hl)
theorem g_imul (B : CallFix p m c cc nL s args Ts own) {x y v : Int32} (hdg : decode cc pc = .ok (.imul, 1)) (hv : x * y = v) (kk : G p l e R s m args below meth c Q D AD A nL cells slots w lv (pc + 1) (.int v :: st)) : G p l e R s m args below meth c Q D AD A nL cells slots w lv pc (.int y :: .int x :: st) := by
  intro H locs ls hP hD hS hl
  subst hv
  exact lv_imul B.1 B.2.1 hdg (kk H locs ls hP hD hS hl)
theorem g_iand (B : CallFix p m c cc nL s args Ts own) {x y v : Int32} (hdg : decode cc pc = .ok (.iand, 1)) (hv : x &&& y = v) (kk : G p l e R s m args below meth c Q D AD A nL cells slots w lv (pc + 1) (.int v :: st)) : G p l e R s m args below meth c Q D AD A nL cells slots w lv pc (.int y :: .int x :: st) := by
  intro H locs ls hP hD hS hl
  subst hv
  exact lv_iand B.1 B.2.1 hdg (kk H locs ls hP hD hS hl)
theorem g_ior (B : CallFix p m c cc nL s args Ts own) {x y v : Int32} (hdg : decode cc pc = .ok (.ior, 1)) (hv : x ||| y = v) (kk : G p l e R s m args below meth c Q D AD A nL cells slots w lv (pc + 1) (.int v :: st)) : G p l e R s m args below meth c Q D AD A nL cells slots w lv pc (.int y :: .int x :: st) := by
  intro H locs ls hP hD hS hl
  subst hv
  exact lv_ior B.1 B.2.1 hdg (kk H locs ls hP hD hS hl)
theorem g_ixor (B : CallFix p m c cc nL s args Ts own) {x y v : Int32} (hdg : decode cc pc = .ok (.ixor, 1)) (hv : x ^^^ y = v) (kk : G p l e R s m args below meth c Q D AD A nL cells slots w lv (pc + 1) (.int v :: st)) : G p l e R s m args below meth c Q D AD A nL cells slots w lv pc (.int y :: .int x :: st) := by
  intro H locs ls hP hD hS hl
  subst hv
  exact lv_ixor B.1 B.2.1 hdg (kk H locs ls hP hD hS hl)
theorem g_ishl (B : CallFix p m c cc nL s args Ts own) {x y v : Int32} (hdg : decode cc pc = .ok (.ishl, 1)) (hv : x <<< (y &&& 31) = v) (kk : G p l e R s m args below meth c Q D AD A nL cells slots w lv (pc + 1) (.int v :: st)) : G p l e R s m args below meth c Q D AD A nL cells slots w lv pc (.int y :: .int x :: st) := by
  intro H locs ls hP hD hS hl
  subst hv
  exact lv_ishl B.1 B.2.1 hdg (kk H locs ls hP hD hS hl)
theorem g_ishr (B : CallFix p m c cc nL s args Ts own) {x y v : Int32} (hdg : decode cc pc = .ok (.ishr, 1)) (hv : x >>> (y &&& 31) = v) (kk : G p l e R s m args below meth c Q D AD A nL cells slots w lv (pc + 1) (.int v :: st)) : G p l e R s m args below meth c Q D AD A nL cells slots w lv pc (.int y :: .int x :: st) := by
  intro H locs ls hP hD hS hl
  subst hv
  exact lv_ishr B.1 B.2.1 hdg (kk H locs ls hP hD hS hl)
theorem g_idiv (B : CallFix p m c cc nL s args Ts own) {x y v : Int32} (hdg : decode cc pc = .ok (.idiv, 1)) (hne : ¬ y = 0) (hv : x / y = v) (kk : G p l e R s m args below meth c Q D AD A nL cells slots w lv (pc + 1) (.int v :: st)) : G p l e R s m args below meth c Q D AD A nL cells slots w lv pc (.int y :: .int x :: st) := by
  intro H locs ls hP hD hS hl
  subst hv
  exact lv_idiv B.1 B.2.1 hdg hne (kk H locs ls hP hD hS hl)
theorem g_irem (B : CallFix p m c cc nL s args Ts own) {x y v : Int32} (hdg : decode cc pc = .ok (.irem, 1)) (hne : ¬ y = 0) (hv : x - x / y * y = v) (kk : G p l e R s m args below meth c Q D AD A nL cells slots w lv (pc + 1) (.int v :: st)) : G p l e R s m args below meth c Q D AD A nL cells slots w lv pc (.int y :: .int x :: st) := by
  intro H locs ls hP hD hS hl
  subst hv
  exact lv_irem B.1 B.2.1 hdg hne (kk H locs ls hP hD hS hl)
theorem g_ladd (B : CallFix p m c cc nL s args Ts own) {x y v : Int64} (hdg : decode cc pc = .ok (.ladd, 1)) (hv : x + y = v) (kk : G p l e R s m args below meth c Q D AD A nL cells slots w lv (pc + 1) (.long v :: st)) : G p l e R s m args below meth c Q D AD A nL cells slots w lv pc (.long y :: .long x :: st) := by
  intro H locs ls hP hD hS hl
  subst hv
  exact lv_ladd B.1 B.2.1 hdg (kk H locs ls hP hD hS hl)
theorem g_lsub (B : CallFix p m c cc nL s args Ts own) {x y v : Int64} (hdg : decode cc pc = .ok (.lsub, 1)) (hv : x - y = v) (kk : G p l e R s m args below meth c Q D AD A nL cells slots w lv (pc + 1) (.long v :: st)) : G p l e R s m args below meth c Q D AD A nL cells slots w lv pc (.long y :: .long x :: st) := by
  intro H locs ls hP hD hS hl
  subst hv
  exact lv_lsub B.1 B.2.1 hdg (kk H locs ls hP hD hS hl)
theorem g_lmul (B : CallFix p m c cc nL s args Ts own) {x y v : Int64} (hdg : decode cc pc = .ok (.lmul, 1)) (hv : x * y = v) (kk : G p l e R s m args below meth c Q D AD A nL cells slots w lv (pc + 1) (.long v :: st)) : G p l e R s m args below meth c Q D AD A nL cells slots w lv pc (.long y :: .long x :: st) := by
  intro H locs ls hP hD hS hl
  subst hv
  exact lv_lmul B.1 B.2.1 hdg (kk H locs ls hP hD hS hl)
theorem g_land (B : CallFix p m c cc nL s args Ts own) {x y v : Int64} (hdg : decode cc pc = .ok (.land, 1)) (hv : x &&& y = v) (kk : G p l e R s m args below meth c Q D AD A nL cells slots w lv (pc + 1) (.long v :: st)) : G p l e R s m args below meth c Q D AD A nL cells slots w lv pc (.long y :: .long x :: st) := by
  intro H locs ls hP hD hS hl
  subst hv
  exact lv_land B.1 B.2.1 hdg (kk H locs ls hP hD hS hl)
theorem g_lor (B : CallFix p m c cc nL s args Ts own) {x y v : Int64} (hdg : decode cc pc = .ok (.lor, 1)) (hv : x ||| y = v) (kk : G p l e R s m args below meth c Q D AD A nL cells slots w lv (pc + 1) (.long v :: st)) : G p l e R s m args below meth c Q D AD A nL cells slots w lv pc (.long y :: .long x :: st) := by
  intro H locs ls hP hD hS hl
  subst hv
  exact lv_lor B.1 B.2.1 hdg (kk H locs ls hP hD hS hl)
theorem g_lxor (B : CallFix p m c cc nL s args Ts own) {x y v : Int64} (hdg : decode cc pc = .ok (.lxor, 1)) (hv : x ^^^ y = v) (kk : G p l e R s m args below meth c Q D AD A nL cells slots w lv (pc + 1) (.long v :: st)) : G p l e R s m args below meth c Q D AD A nL cells slots w lv pc (.long y :: .long x :: st) := by
  intro H locs ls hP hD hS hl
  subst hv
  exact lv_lxor B.1 B.2.1 hdg (kk H locs ls hP hD hS hl)
theorem g_lushr (B : CallFix p m c cc nL s args Ts own) {x v : Int64} {y : Int32} (hdg : decode cc pc = .ok (.lushr, 1)) (hv : (x.toUInt64 >>> (y.toInt64.toUInt64 &&& Int64.toUInt64 63)).toInt64 = v) (kk : G p l e R s m args below meth c Q D AD A nL cells slots w lv (pc + 1) (.long v :: st)) : G p l e R s m args below meth c Q D AD A nL cells slots w lv pc (.int y :: .long x :: st) := by
  intro H locs ls hP hD hS hl
  exact lv_lushr B.1 B.2.1 hdg hv (kk H locs ls hP hD hS hl)
theorem g_lshl (B : CallFix p m c cc nL s args Ts own) {x v : Int64} {y : Int32} (hdg : decode cc pc = .ok (.lshl, 1)) (hv : x <<< (y.toInt64 &&& 63) = v) (kk : G p l e R s m args below meth c Q D AD A nL cells slots w lv (pc + 1) (.long v :: st)) : G p l e R s m args below meth c Q D AD A nL cells slots w lv pc (.int y :: .long x :: st) := by
  intro H locs ls hP hD hS hl
  exact lv_lshl B.1 B.2.1 hdg hv (kk H locs ls hP hD hS hl)
theorem g_i2l (B : CallFix p m c cc nL s args Ts own) {x : Int32} {v : Int64} (hdg : decode cc pc = .ok (.i2l, 1)) (hv : x.toInt64 = v) (kk : G p l e R s m args below meth c Q D AD A nL cells slots w lv (pc + 1) (.long v :: st)) : G p l e R s m args below meth c Q D AD A nL cells slots w lv pc (.int x :: st) := by
  intro H locs ls hP hD hS hl
  exact lv_i2l B.1 B.2.1 hdg hv (kk H locs ls hP hD hS hl)
theorem g_l2i (B : CallFix p m c cc nL s args Ts own) {x : Int64} {v : Int32} (hdg : decode cc pc = .ok (.l2i, 1)) (hv : x.toInt32 = v) (kk : G p l e R s m args below meth c Q D AD A nL cells slots w lv (pc + 1) (.int v :: st)) : G p l e R s m args below meth c Q D AD A nL cells slots w lv pc (.long x :: st) := by
  intro H locs ls hP hD hS hl
  exact lv_l2i B.1 B.2.1 hdg hv (kk H locs ls hP hD hS hl)
theorem g_lcmp (B : CallFix p m c cc nL s args Ts own) {x y : Int64} {v : Int32} (hdg : decode cc pc = .ok (.lcmp, 1)) (hv : lg_cmp x y = v) (kk : G p l e R s m args below meth c Q D AD A nL cells slots w lv (pc + 1) (.int v :: st)) : G p l e R s m args below meth c Q D AD A nL cells slots w lv pc (.long y :: .long x :: st) := by
  intro H locs ls hP hD hS hl
  subst hv
  exact W.lcmp B.1 B.2.1 hdg (kk H locs ls hP hD hS hl)
theorem g_i2d (B : CallFix p m c cc nL s args Ts own) {x : Int32} (hdg : decode cc pc = .ok (.i2d, 1))  (kk : G p l e R s m args below meth c Q D AD A nL cells slots w lv (pc + 1) (.double (FP.i2d x) :: st)) : G p l e R s m args below meth c Q D AD A nL cells slots w lv pc (.int x :: st) := by
  intro H locs ls hP hD hS hl
  exact lv_i2d B.1 B.2.1 hdg (kk H locs ls hP hD hS hl)
theorem g_dup (B : CallFix p m c cc nL s args Ts own) {va : Value} (hdg : decode cc pc = .ok (.dup, 1)) (hva : va.category = 1) (kk : G p l e R s m args below meth c Q D AD A nL cells slots w lv (pc + 1) (va :: va :: st)) : G p l e R s m args below meth c Q D AD A nL cells slots w lv pc (va :: st) := by
  intro H locs ls hP hD hS hl
  exact lv_dup B.1 B.2.1 hdg hva (kk H locs ls hP hD hS hl)
theorem g_pop (B : CallFix p m c cc nL s args Ts own) {va : Value} (hdg : decode cc pc = .ok (.pop, 1)) (hva : va.category = 1) (kk : G p l e R s m args below meth c Q D AD A nL cells slots w lv (pc + 1) st) : G p l e R s m args below meth c Q D AD A nL cells slots w lv pc (va :: st) := by
  intro H locs ls hP hD hS hl
  exact lv_pop B.1 B.2.1 hdg hva (kk H locs ls hP hD hS hl)
theorem g_dup_x1 (B : CallFix p m c cc nL s args Ts own) {va vb : Value} (hdg : decode cc pc = .ok (.dup_x1, 1)) (hva : va.category = 1) (hvb : vb.category = 1) (kk : G p l e R s m args below meth c Q D AD A nL cells slots w lv (pc + 1) (va :: vb :: va :: st)) : G p l e R s m args below meth c Q D AD A nL cells slots w lv pc (va :: vb :: st) := by
  intro H locs ls hP hD hS hl
  exact lv_dup_x1 B.1 B.2.1 hdg hva hvb (kk H locs ls hP hD hS hl)
theorem g_dup2_11 (B : CallFix p m c cc nL s args Ts own) {va vb : Value} (hdg : decode cc pc = .ok (.dup2, 1)) (hva : va.category = 1) (hvb : vb.category = 1) (kk : G p l e R s m args below meth c Q D AD A nL cells slots w lv (pc + 1) (va :: vb :: va :: vb :: st)) : G p l e R s m args below meth c Q D AD A nL cells slots w lv pc (va :: vb :: st) := by
  intro H locs ls hP hD hS hl
  exact lv_dup2_11 B.1 B.2.1 hdg hva hvb (kk H locs ls hP hD hS hl)
theorem g_if_eq (B : CallFix p m c cc nL s args Ts own) {x : Int32} {off : Int} {tgt : Nat} (hdg : decode cc pc = .ok (.ifCond .eq off, 3)) (ht : (pc : Int) + off = (tgt : Int)) (kt : x = 0 → G p l e R s m args below meth c Q D AD A nL cells slots w lv tgt st) (kf : ¬ (x = 0) → G p l e R s m args below meth c Q D AD A nL cells slots w lv (pc + 3) st) : G p l e R s m args below meth c Q D AD A nL cells slots w lv pc (.int x :: st) := by
  intro H locs ls hP hD hS hl
  exact lv_if_eq B.1 B.2.1 hdg ht (fun h => kt h H locs ls hP hD hS hl) (fun h => kf h H locs ls hP hD hS hl)
theorem g_icmp_eq (B : CallFix p m c cc nL s args Ts own) {x y : Int32} {off : Int} {tgt : Nat} (hdg : decode cc pc = .ok (.if_icmp .eq off, 3)) (ht : (pc : Int) + off = (tgt : Int)) (kt : x = y → G p l e R s m args below meth c Q D AD A nL cells slots w lv tgt st) (kf : ¬ (x = y) → G p l e R s m args below meth c Q D AD A nL cells slots w lv (pc + 3) st) : G p l e R s m args below meth c Q D AD A nL cells slots w lv pc (.int y :: .int x :: st) := by
  intro H locs ls hP hD hS hl
  exact lv_icmp_eq B.1 B.2.1 hdg ht (fun h => kt h H locs ls hP hD hS hl) (fun h => kf h H locs ls hP hD hS hl)
theorem g_if_ne (B : CallFix p m c cc nL s args Ts own) {x : Int32} {off : Int} {tgt : Nat} (hdg : decode cc pc = .ok (.ifCond .ne off, 3)) (ht : (pc : Int) + off = (tgt : Int)) (kt : ¬ x = 0 → G p l e R s m args below meth c Q D AD A nL cells slots w lv tgt st) (kf : x = 0 → G p l e R s m args below meth c Q D AD A nL cells slots w lv (pc + 3) st) : G p l e R s m args below meth c Q D AD A nL cells slots w lv pc (.int x :: st) := by
  intro H locs ls hP hD hS hl
  exact lv_if_ne B.1 B.2.1 hdg ht (fun h => kt h H locs ls hP hD hS hl) (fun h => kf h H locs ls hP hD hS hl)
theorem g_icmp_ne (B : CallFix p m c cc nL s args Ts own) {x y : Int32} {off : Int} {tgt : Nat} (hdg : decode cc pc = .ok (.if_icmp .ne off, 3)) (ht : (pc : Int) + off = (tgt : Int)) (kt : ¬ x = y → G p l e R s m args below meth c Q D AD A nL cells slots w lv tgt st) (kf : x = y → G p l e R s m args below meth c Q D AD A nL cells slots w lv (pc + 3) st) : G p l e R s m args below meth c Q D AD A nL cells slots w lv pc (.int y :: .int x :: st) := by
  intro H locs ls hP hD hS hl
  exact lv_icmp_ne B.1 B.2.1 hdg ht (fun h => kt h H locs ls hP hD hS hl) (fun h => kf h H locs ls hP hD hS hl)
theorem g_if_lt (B : CallFix p m c cc nL s args Ts own) {x : Int32} {off : Int} {tgt : Nat} (hdg : decode cc pc = .ok (.ifCond .lt off, 3)) (ht : (pc : Int) + off = (tgt : Int)) (kt : x < 0 → G p l e R s m args below meth c Q D AD A nL cells slots w lv tgt st) (kf : ¬ (x < 0) → G p l e R s m args below meth c Q D AD A nL cells slots w lv (pc + 3) st) : G p l e R s m args below meth c Q D AD A nL cells slots w lv pc (.int x :: st) := by
  intro H locs ls hP hD hS hl
  exact lv_if_lt B.1 B.2.1 hdg ht (fun h => kt h H locs ls hP hD hS hl) (fun h => kf h H locs ls hP hD hS hl)
theorem g_icmp_lt (B : CallFix p m c cc nL s args Ts own) {x y : Int32} {off : Int} {tgt : Nat} (hdg : decode cc pc = .ok (.if_icmp .lt off, 3)) (ht : (pc : Int) + off = (tgt : Int)) (kt : x < y → G p l e R s m args below meth c Q D AD A nL cells slots w lv tgt st) (kf : ¬ (x < y) → G p l e R s m args below meth c Q D AD A nL cells slots w lv (pc + 3) st) : G p l e R s m args below meth c Q D AD A nL cells slots w lv pc (.int y :: .int x :: st) := by
  intro H locs ls hP hD hS hl
  exact lv_icmp_lt B.1 B.2.1 hdg ht (fun h => kt h H locs ls hP hD hS hl) (fun h => kf h H locs ls hP hD hS hl)
theorem g_if_ge (B : CallFix p m c cc nL s args Ts own) {x : Int32} {off : Int} {tgt : Nat} (hdg : decode cc pc = .ok (.ifCond .ge off, 3)) (ht : (pc : Int) + off = (tgt : Int)) (kt : 0 ≤ x → G p l e R s m args below meth c Q D AD A nL cells slots w lv tgt st) (kf : ¬ (0 ≤ x) → G p l e R s m args below meth c Q D AD A nL cells slots w lv (pc + 3) st) : G p l e R s m args below meth c Q D AD A nL cells slots w lv pc (.int x :: st) := by
  intro H locs ls hP hD hS hl
  exact lv_if_ge B.1 B.2.1 hdg ht (fun h => kt h H locs ls hP hD hS hl) (fun h => kf h H locs ls hP hD hS hl)
theorem g_icmp_ge (B : CallFix p m c cc nL s args Ts own) {x y : Int32} {off : Int} {tgt : Nat} (hdg : decode cc pc = .ok (.if_icmp .ge off, 3)) (ht : (pc : Int) + off = (tgt : Int)) (kt : y ≤ x → G p l e R s m args below meth c Q D AD A nL cells slots w lv tgt st) (kf : ¬ (y ≤ x) → G p l e R s m args below meth c Q D AD A nL cells slots w lv (pc + 3) st) : G p l e R s m args below meth c Q D AD A nL cells slots w lv pc (.int y :: .int x :: st) := by
  intro H locs ls hP hD hS hl
  exact lv_icmp_ge B.1 B.2.1 hdg ht (fun h => kt h H locs ls hP hD hS hl) (fun h => kf h H locs ls hP hD hS hl)
theorem g_if_gt (B : CallFix p m c cc nL s args Ts own) {x : Int32} {off : Int} {tgt : Nat} (hdg : decode cc pc = .ok (.ifCond .gt off, 3)) (ht : (pc : Int) + off = (tgt : Int)) (kt : 0 < x → G p l e R s m args below meth c Q D AD A nL cells slots w lv tgt st) (kf : ¬ (0 < x) → G p l e R s m args below meth c Q D AD A nL cells slots w lv (pc + 3) st) : G p l e R s m args below meth c Q D AD A nL cells slots w lv pc (.int x :: st) := by
  intro H locs ls hP hD hS hl
  exact lv_if_gt B.1 B.2.1 hdg ht (fun h => kt h H locs ls hP hD hS hl) (fun h => kf h H locs ls hP hD hS hl)
theorem g_icmp_gt (B : CallFix p m c cc nL s args Ts own) {x y : Int32} {off : Int} {tgt : Nat} (hdg : decode cc pc = .ok (.if_icmp .gt off, 3)) (ht : (pc : Int) + off = (tgt : Int)) (kt : y < x → G p l e R s m args below meth c Q D AD A nL cells slots w lv tgt st) (kf : ¬ (y < x) → G p l e R s m args below meth c Q D AD A nL cells slots w lv (pc + 3) st) : G p l e R s m args below meth c Q D AD A nL cells slots w lv pc (.int y :: .int x :: st) := by
  intro H locs ls hP hD hS hl
  exact lv_icmp_gt B.1 B.2.1 hdg ht (fun h => kt h H locs ls hP hD hS hl) (fun h => kf h H locs ls hP hD hS hl)
theorem g_if_le (B : CallFix p m c cc nL s args Ts own) {x : Int32} {off : Int} {tgt : Nat} (hdg : decode cc pc = .ok (.ifCond .le off, 3)) (ht : (pc : Int) + off = (tgt : Int)) (kt : x ≤ 0 → G p l e R s m args below meth c Q D AD A nL cells slots w lv tgt st) (kf : ¬ (x ≤ 0) → G p l e R s m args below meth c Q D AD A nL cells slots w lv (pc + 3) st) : G p l e R s m args below meth c Q D AD A nL cells slots w lv pc (.int x :: st) := by
  intro H locs ls hP hD hS hl
  exact lv_if_le B.1 B.2.1 hdg ht (fun h => kt h H locs ls hP hD hS hl) (fun h => kf h H locs ls hP hD hS hl)
theorem g_icmp_le (B : CallFix p m c cc nL s args Ts own) {x y : Int32} {off : Int} {tgt : Nat} (hdg : decode cc pc = .ok (.if_icmp .le off, 3)) (ht : (pc : Int) + off = (tgt : Int)) (kt : x ≤ y → G p l e R s m args below meth c Q D AD A nL cells slots w lv tgt st) (kf : ¬ (x ≤ y) → G p l e R s m args below meth c Q D AD A nL cells slots w lv (pc + 3) st) : G p l e R s m args below meth c Q D AD A nL cells slots w lv pc (.int y :: .int x :: st) := by
  intro H locs ls hP hD hS hl
  exact lv_icmp_le B.1 B.2.1 hdg ht (fun h => kt h H locs ls hP hD hS hl) (fun h => kf h H locs ls hP hD hS hl)
theorem g_goto (B : CallFix p m c cc nL s args Ts own) {off : Int} {tgt : Nat} (hdg : decode cc pc = .ok (.goto off, 3)) (ht : (pc : Int) + off = (tgt : Int)) (kk : G p l e R s m args below meth c Q D AD A nL cells slots w lv tgt st) : G p l e R s m args below meth c Q D AD A nL cells slots w lv pc st := by
  intro H locs ls hP hD hS hl
  exact lv_goto B.1 B.2.1 hdg ht (kk H locs ls hP hD hS hl)
theorem g_tableIn (B : CallFix p m c cc nL s args Ts own) {dflt lo hi : Int} {offs : Array Int} {len : Nat} {x : Int32} {off : Int} {tgt : Nat} (hdg : decode cc pc = .ok (.tableswitch dflt lo hi offs, len)) (h1 : ¬ x.toInt < lo) (h2 : ¬ hi < x.toInt) (ho : offs[(x.toInt - lo).toNat]? = some off) (ht : (pc : Int) + off = (tgt : Int)) (kk : G p l e R s m args below meth c Q D AD A nL cells slots w lv tgt st) : G p l e R s m args below meth c Q D AD A nL cells slots w lv pc (.int x :: st) := by
  intro H locs ls hP hD hS hl
  exact lv_tableIn B.1 B.2.1 hdg h1 h2 ho ht (kk H locs ls hP hD hS hl)
theorem g_tableOut (B : CallFix p m c cc nL s args Ts own) {dflt lo hi : Int} {offs : Array Int} {len : Nat} {x : Int32} {tgt : Nat} (hdg : decode cc pc = .ok (.tableswitch dflt lo hi offs, len)) (h : x.toInt < lo ∨ hi < x.toInt) (ht : (pc : Int) + dflt = (tgt : Int)) (kk : G p l e R s m args below meth c Q D AD A nL cells slots w lv tgt st) : G p l e R s m args below meth c Q D AD A nL cells slots w lv pc (.int x :: st) := by
  intro H locs ls hP hD hS hl
  exact lv_tableOut B.1 B.2.1 hdg h ht (kk H locs ls hP hD hS hl)
theorem g_lookup (B : CallFix p m c cc nL s args Ts own) {dflt : Int} {ps : Array (Int × Int)} {len : Nat} {x : Int32} {off : Int} {tgt : Nat} (hdg : decode cc pc = .ok (.lookupswitch dflt ps, len)) (hp : (ps.toList.zip (ps.toList.drop 1)).all (fun (a, next) => a.1 < next.1) = true) (ho : Op.lookupswitch.offset ps.toList dflt x.toInt = off) (ht : (pc : Int) + off = (tgt : Int)) (kk : G p l e R s m args below meth c Q D AD A nL cells slots w lv tgt st) : G p l e R s m args below meth c Q D AD A nL cells slots w lv pc (.int x :: st) := by
  intro H locs ls hP hD hS hl
  exact lv_lookup B.1 B.2.1 hdg hp ho ht (kk H locs ls hP hD hS hl)
theorem g_topi {x : Int32} (k : ∀ y : Int32, y = x → G p l e R s m args below meth c Q D AD A nL cells slots w lv pc (.int y :: st)) : G p l e R s m args below meth c Q D AD A nL cells slots w lv pc (.int x :: st) := k x rfl
theorem g_topl {x : Int64} (k : ∀ y : Int64, y = x → G p l e R s m args below meth c Q D AD A nL cells slots w lv pc (.long y :: st)) : G p l e R s m args below meth c Q D AD A nL cells slots w lv pc (.long x :: st) := k x rfl
theorem g_to {w2 : va_W} {lv2 : List (Nat × Value)} {st2 : List Value} (kk : G p l e R s m args below meth c Q D AD A nL cells slots w lv pc st) (h1 : w = w2) (h2 : lv = lv2) (h3 : st = st2) : G p l e R s m args below meth c Q D AD A nL cells slots w2 lv2 pc st2 := by subst h1; subst h2; subst h3; exact kk
theorem g_widen {k n : Nat} (h1 : cells ≤ k) (h2 : slots ≤ n) (kk : G p l e R s m args below meth c Q D AD A nL k n w lv pc st) : G p l e R s m args below meth c Q D AD A nL cells slots w lv pc st := fun H locs ls hP hD hS hl => W.widen h1 h2 (kk H locs ls hP hD hS hl)
theorem g_pick {lv2 : List (Nat × Value)} (ks : List Nat) (hl2 : lv_pick lv ks = lv2) (kk : G p l e R s m args below meth c Q D AD A nL cells slots w lv2 pc st) : G p l e R s m args below meth c Q D AD A nL cells slots w lv pc st := fun H locs ls hP hD hS hl => kk H locs ls hP hD hS (lv_sub hl ks hl2)
theorem g_get (B : CallFix p m c cc nL s args Ts own) (hK : va_K D vwCl tys s) {ref C : String} {T : u_T} {N ci index : Nat} (hin : ∀ z ∈ u_ws C T N, z ∈ Ts) (q0 : Nat) {a : Nat} {fs : List Value} (he : w[q0]? = some (a, .inr (ci, fs))) (hc : vwCl[ci]? = some (C, T, N)) (k : Nat) (hk : k < N) (hlink : Cond.fieldLink own index ref (T k).2.1 (T k).2.2.1 ∈ Ts) (href : (T k).1 = ref) {v : Value} (hv : fs[k]? = some v) (hdg : decode cc pc = .ok (.getfield index, 3)) (kk : G p l e R s m args below meth c Q D AD A nL cells slots w lv (pc + 3) (v :: st)) : G p l e R s m args below meth c Q D AD A nL cells slots w lv pc (.ref a :: st) := by
  intro H locs ls hP hD hS hl
  exact va_get B.1 B.2.1 B.2.2.2.2 hin B.2.2.2.1 hK hP q0 he hc k hk (B.2.2.2.2 _ hlink) (fun x h => by rw [← href]; exact h) hv hdg (kk H locs ls hP hD hS hl)
theorem g_getN (B : CallFix p m c cc nL s args Ts own) (hK : va_K D vwCl tys s) {ref C : String} {T : u_T} {N ci index : Nat} (hin : ∀ z ∈ u_ws C T N, z ∈ Ts) (q0 : Nat) {a : Nat} {fs : List Value} (he : w[q0]? = some (a, .inr (ci, fs))) (hc : vwCl[ci]? = some (C, T, N)) (k : Nat) (hk : k < N) {host : String} (hN : NWs s) (qn : Nat) (hlink : NWF[qn]? = some (own, index, ref, (T k).2.1, (T k).2.2.1, host)) (href : (T k).1 = ref) {v : Value} (hv : fs[k]? = some v) (hdg : decode cc pc = .ok (.getfield index, 3)) (kk : G p l e R s m args below meth c Q D AD A nL cells slots w lv (pc + 3) (v :: st)) : G p l e R s m args below meth c Q D AD A nL cells slots w lv pc (.ref a :: st) := by
  intro H locs ls hP hD hS hl
  exact va_getN B.1 B.2.1 B.2.2.2.2 hin B.2.2.2.1 hK hP q0 he hc k hk (va_Nw.use rfl (hN.1 _ (List.mem_of_getElem? hlink))) (fun x h => by rw [← href]; exact h) hv hdg (kk H locs ls hP hD hS hl)
theorem g_put (B : CallFix p m c cc nL s args Ts own) (hK : va_K D vwCl tys s) {ref C : String} {T : u_T} {N ci index : Nat} (hin : ∀ z ∈ u_ws C T N, z ∈ Ts) (q0 : Nat) {a : Nat} {fs : List Value} (he : w[q0]? = some (a, .inr (ci, fs))) (hc : vwCl[ci]? = some (C, T, N)) (k : Nat) (hk : k < N) (ty0 : Nat → FieldType) (hty : ∀ k, k < N → parseFieldDescriptor (T k).2.2.1 = some (ty0 k)) (hnm : ∀ a, a < N → ∀ b, b < N → a ≠ b → (T a).2.1 ≠ (T b).2.1) (hlink : Cond.fieldLink own index ref (T k).2.1 (T k).2.2.1 ∈ Ts) (href : (T k).1 = ref) (hfin : (T k).2.2.2 = false) {ty : FieldType} {v : Value} (hd : parseFieldDescriptor (T k).2.2.1 = some ty) (hn : narrow ty v = v) (hfit : fits ty v = true) (hl9 : k < fs.length) {w2 : va_W} (hw2 : w.set q0 (a, .inr (ci, fs.set k v)) = w2) (hAD : ∀ q, AD q → A q) (hdg : decode cc pc = .ok (.putfield index, 3)) (kk : G p l e R s m args below meth c Q D AD A nL cells slots w2 lv (pc + 3) st) : G p l e R s m args below meth c Q D AD A nL cells slots w lv pc (v :: .ref a :: st) := by
  intro H locs ls hP hD hS hl
  subst hw2
  exact va_put B.1 B.2.1 B.2.2.2.2 hin ty0 hty hnm B.2.2.2.1 hK hP (hD.weaken (fun _ q _ h => hAD _ h)) hS q0 he hc k hk (B.2.2.2.2 _ hlink) (fun x h => by rw [← href]; exact h) hfin hd hn hfit hl9 hdg (fun H1 locs1 hP1 hD1 hS1 => kk H1 locs1 ls hP1 (hD.set he) hS1 hl)
theorem g_putF (B : CallFix p m c cc nL s args Ts own) (hK : va_K D vwCl tys s) {ref C : String} {T : u_T} {N ci index : Nat} (hin : ∀ z ∈ u_ws C T N, z ∈ Ts) (q0 : Nat) {a : Nat} {fs : List Value} (he : w[q0]? = some (a, .inr (ci, fs))) (hc : vwCl[ci]? = some (C, T, N)) (k : Nat) (hk : k < N) (ty0 : Nat → FieldType) (hty : ∀ k, k < N → parseFieldDescriptor (T k).2.2.1 = some (ty0 k)) (hnm : ∀ a, a < N → ∀ b, b < N → a ≠ b → (T a).2.1 ≠ (T b).2.1) (hlink : Cond.fieldLink own index ref (T k).2.1 (T k).2.2.1 ∈ Ts) (href : (T k).1 = ref) (hfin : (T k).2.2.2 = true) (hin2 : meth.name = "<init>") (hdecl : (T k).1 = own) {ty : FieldType} {v : Value} (hd : parseFieldDescriptor (T k).2.2.1 = some ty) (hn : narrow ty v = v) (hfit : fits ty v = true) (hl9 : k < fs.length) {w2 : va_W} (hw2 : w.set q0 (a, .inr (ci, fs.set k v)) = w2) (hAD : ∀ q, AD q → A q) (hdg : decode cc pc = .ok (.putfield index, 3)) (kk : G p l e R s m args below meth c Q D AD A nL cells slots w2 lv (pc + 3) st) : G p l e R s m args below meth c Q D AD A nL cells slots w lv pc (v :: .ref a :: st) := by
  intro H locs ls hP hD hS hl
  subst hw2
  exact va_putF B.1 B.2.1 B.2.2.2.2 hin ty0 hty hnm B.2.2.2.1 hK hP (hD.weaken (fun _ q _ h => hAD _ h)) hS q0 he hc k hk (B.2.2.2.2 _ hlink) (fun x h => by rw [← href]; exact h) hfin hin2 hdecl hd hn hfit hl9 hdg (fun H1 locs1 hP1 hD1 hS1 => kk H1 locs1 ls hP1 (hD.set he) hS1 hl)
theorem g_putN (B : CallFix p m c cc nL s args Ts own) (hK : va_K D vwCl tys s) {ref C : String} {T : u_T} {N ci index : Nat} (hin : ∀ z ∈ u_ws C T N, z ∈ Ts) (q0 : Nat) {a : Nat} {fs : List Value} (he : w[q0]? = some (a, .inr (ci, fs))) (hc : vwCl[ci]? = some (C, T, N)) (k : Nat) (hk : k < N) (ty0 : Nat → FieldType) (hty : ∀ k, k < N → parseFieldDescriptor (T k).2.2.1 = some (ty0 k)) (hnm : ∀ a, a < N → ∀ b, b < N → a ≠ b → (T a).2.1 ≠ (T b).2.1) {host : String} (hN : NWs s) (qn : Nat) (hlink : NWF[qn]? = some (own, index, ref, (T k).2.1, (T k).2.2.1, host)) (href : (T k).1 = ref) (hfin : (T k).2.2.2 = false) {ty : FieldType} {v : Value} (hd : parseFieldDescriptor (T k).2.2.1 = some ty) (hn : narrow ty v = v) (hfit : fits ty v = true) (hl9 : k < fs.length) {w2 : va_W} (hw2 : w.set q0 (a, .inr (ci, fs.set k v)) = w2) (hAD : ∀ q, AD q → A q) (hdg : decode cc pc = .ok (.putfield index, 3)) (kk : G p l e R s m args below meth c Q D AD A nL cells slots w2 lv (pc + 3) st) : G p l e R s m args below meth c Q D AD A nL cells slots w lv pc (v :: .ref a :: st) := by
  intro H locs ls hP hD hS hl
  subst hw2
  exact va_putN B.1 B.2.1 B.2.2.2.2 hin ty0 hty hnm B.2.2.2.1 hK hP (hD.weaken (fun _ q _ h => hAD _ h)) hS q0 he hc k hk (va_Nw.use rfl (hN.1 _ (List.mem_of_getElem? hlink))) (fun x h => by rw [← href]; exact h) hfin hd hn hfit hl9 hdg (fun H1 locs1 hP1 hD1 hS1 => kk H1 locs1 ls hP1 (hD.set he) hS1 hl)
theorem g_iald (B : CallFix p m c cc nL s args Ts own) (hK : va_K D vwCl tys s) (q0 t0 : Nat) {a : Nat} {cA : ClassId} {n : Nat} {f : Nat → Int32} (ha : w[q0]? = some (a, .inl (cA, n, .inl f))) (ht : tys[t0]? = some (cA, .int)) {i : Int32} (k : Nat) (hi : i = nI k) (hk : k < n) (hn : k < 2 ^ 31) {v : Int32} (hv : f k = v) (hdg : decode cc pc = .ok (.iaload, 1)) (kk : G p l e R s m args below meth c Q D AD A nL cells slots w lv (pc + 1) (.int v :: st)) : G p l e R s m args below meth c Q D AD A nL cells slots w lv pc (.int i :: .ref a :: st) := by
  intro H locs ls hP hD hS hl
  subst hi
  have hin : vp_in (nI k) n := by rw [vp_in, nI_clamp hn]; exact fun h => h.elim (nI_pos hn) (fun h => absurd hk (Nat.not_lt.mpr h))
  refine va_iald B.1 B.2.1 hK hP q0 t0 ha ht hin hdg ?_
  rw [nI_clamp hn, hv]
  exact kk H locs ls hP hD hS hl
theorem g_zald (B : CallFix p m c cc nL s args Ts own) (hK : va_K D vwCl tys s) (q0 t0 : Nat) {a : Nat} {cA : ClassId} {n : Nat} {f : Nat → Int32} (ha : w[q0]? = some (a, .inl (cA, n, .inl f))) (ht : tys[t0]? = some (cA, .boolean)) {i : Int32} (k : Nat) (hi : i = nI k) (hk : k < n) (hn : k < 2 ^ 31) {v : Int32} (hv : f k = v) (hdg : decode cc pc = .ok (.baload, 1)) (kk : G p l e R s m args below meth c Q D AD A nL cells slots w lv (pc + 1) (.int v :: st)) : G p l e R s m args below meth c Q D AD A nL cells slots w lv pc (.int i :: .ref a :: st) := by
  intro H locs ls hP hD hS hl
  subst hi
  have hin : vp_in (nI k) n := by rw [vp_in, nI_clamp hn]; exact fun h => h.elim (nI_pos hn) (fun h => absurd hk (Nat.not_lt.mpr h))
  refine va_zald B.1 B.2.1 hK hP q0 t0 ha ht hin hdg ?_
  rw [nI_clamp hn, hv]
  exact kk H locs ls hP hD hS hl
theorem g_lald (B : CallFix p m c cc nL s args Ts own) (hK : va_K D vwCl tys s) (q0 t0 : Nat) {a : Nat} {cA : ClassId} {n : Nat} {f : Nat → Int64} (ha : w[q0]? = some (a, .inl (cA, n, .inr (.inl f)))) (ht : tys[t0]? = some (cA, .long)) {i : Int32} (k : Nat) (hi : i = nI k) (hk : k < n) (hn : k < 2 ^ 31) {v : Int64} (hv : f k = v) (hdg : decode cc pc = .ok (.laload, 1)) (kk : G p l e R s m args below meth c Q D AD A nL cells slots w lv (pc + 1) (.long v :: st)) : G p l e R s m args below meth c Q D AD A nL cells slots w lv pc (.int i :: .ref a :: st) := by
  intro H locs ls hP hD hS hl
  subst hi
  have hin : vp_in (nI k) n := by rw [vp_in, nI_clamp hn]; exact fun h => h.elim (nI_pos hn) (fun h => absurd hk (Nat.not_lt.mpr h))
  refine va_lald B.1 B.2.1 hK hP q0 t0 ha ht hin hdg ?_
  rw [nI_clamp hn, hv]
  exact kk H locs ls hP hD hS hl
theorem g_iast (B : CallFix p m c cc nL s args Ts own) (hK : va_K D vwCl tys s) (q0 t0 : Nat) {a : Nat} {cA : ClassId} {n : Nat} {f f2 : Nat → Int32} (ha : w[q0]? = some (a, .inl (cA, n, .inl f))) (ht : tys[t0]? = some (cA, .int)) {i : Int32} {x : Int32} (k : Nat) (hi : i = nI k) (hk : k < n) (hn : k < 2 ^ 31) (hf : upd f k x = f2) {w2 : va_W} (hw2 : w.set q0 (a, .inl (cA, n, .inl f2)) = w2) (hAD : ∀ q, AD q → A q) (hdg : decode cc pc = .ok (.iastore, 1)) (kk : G p l e R s m args below meth c Q D AD A nL cells slots w2 lv (pc + 1) st) : G p l e R s m args below meth c Q D AD A nL cells slots w lv pc (.int x :: .int i :: .ref a :: st) := by
  intro H locs ls hP hD hS hl
  subst hi
  subst hw2
  subst hf
  have hin : vp_in (nI k) n := by rw [vp_in, nI_clamp hn]; exact fun h => h.elim (nI_pos hn) (fun h => absurd hk (Nat.not_lt.mpr h))
  refine va_iast B.1 B.2.1 hK hP (hD.weaken (fun _ q _ h => hAD _ h)) hS q0 t0 ha ht hin hdg (fun H1 locs1 hP1 hD1 hS1 => ?_)
  rw [nI_clamp hn] at hP1
  exact kk H1 locs1 ls hP1 (hD.set ha) hS1 hl
theorem g_zast (B : CallFix p m c cc nL s args Ts own) (hK : va_K D vwCl tys s) (q0 t0 : Nat) {a : Nat} {cA : ClassId} {n : Nat} {f f2 : Nat → Int32} (ha : w[q0]? = some (a, .inl (cA, n, .inl f))) (ht : tys[t0]? = some (cA, .boolean)) {i : Int32} {x : Int32} (k : Nat) (hi : i = nI k) (hk : k < n) (hn : k < 2 ^ 31) (hf : upd f k (vp_nar .boolean x) = f2) {w2 : va_W} (hw2 : w.set q0 (a, .inl (cA, n, .inl f2)) = w2) (hAD : ∀ q, AD q → A q) (hdg : decode cc pc = .ok (.bastore, 1)) (kk : G p l e R s m args below meth c Q D AD A nL cells slots w2 lv (pc + 1) st) : G p l e R s m args below meth c Q D AD A nL cells slots w lv pc (.int x :: .int i :: .ref a :: st) := by
  intro H locs ls hP hD hS hl
  subst hi
  subst hw2
  subst hf
  have hin : vp_in (nI k) n := by rw [vp_in, nI_clamp hn]; exact fun h => h.elim (nI_pos hn) (fun h => absurd hk (Nat.not_lt.mpr h))
  refine va_zast B.1 B.2.1 hK hP (hD.weaken (fun _ q _ h => hAD _ h)) hS q0 t0 ha ht hin hdg (fun H1 locs1 hP1 hD1 hS1 => ?_)
  rw [nI_clamp hn] at hP1
  exact kk H1 locs1 ls hP1 (hD.set ha) hS1 hl
theorem g_last (B : CallFix p m c cc nL s args Ts own) (hK : va_K D vwCl tys s) (q0 t0 : Nat) {a : Nat} {cA : ClassId} {n : Nat} {f f2 : Nat → Int64} (ha : w[q0]? = some (a, .inl (cA, n, .inr (.inl f)))) (ht : tys[t0]? = some (cA, .long)) {i : Int32} {x : Int64} (k : Nat) (hi : i = nI k) (hk : k < n) (hn : k < 2 ^ 31) (hf : vp_updL f k x = f2) {w2 : va_W} (hw2 : w.set q0 (a, .inl (cA, n, .inr (.inl f2))) = w2) (hAD : ∀ q, AD q → A q) (hdg : decode cc pc = .ok (.lastore, 1)) (kk : G p l e R s m args below meth c Q D AD A nL cells slots w2 lv (pc + 1) st) : G p l e R s m args below meth c Q D AD A nL cells slots w lv pc (.long x :: .int i :: .ref a :: st) := by
  intro H locs ls hP hD hS hl
  subst hi
  subst hw2
  subst hf
  have hin : vp_in (nI k) n := by rw [vp_in, nI_clamp hn]; exact fun h => h.elim (nI_pos hn) (fun h => absurd hk (Nat.not_lt.mpr h))
  refine va_last B.1 B.2.1 hK hP (hD.weaken (fun _ q _ h => hAD _ h)) hS q0 t0 ha ht hin hdg (fun H1 locs1 hP1 hD1 hS1 => ?_)
  rw [nI_clamp hn] at hP1
  exact kk H1 locs1 ls hP1 (hD.set ha) hS1 hl
theorem g_alen (B : CallFix p m c cc nL s args Ts own) (hK : va_K D vwCl tys s) (q0 t0 : Nat) {a : Nat} {cA : ClassId} {x : vp_A} (ha : w[q0]? = some (a, .inl (cA, x))) {ty : FieldType} (ht : tys[t0]? = some (cA, ty)) {v : Int32} (hv : Int32.ofNat x.1 = v) (hdg : decode cc pc = .ok (.arraylength, 1)) (kk : G p l e R s m args below meth c Q D AD A nL cells slots w lv (pc + 1) (.int v :: st)) : G p l e R s m args below meth c Q D AD A nL cells slots w lv pc (.ref a :: st) := by
  intro H locs ls hP hD hS hl
  exact va_alen B.1 B.2.1 hK hP q0 t0 ha ht hv hdg (kk H locs ls hP hD hS hl)
end GL
