/-! Math.abs of a double -/

theorem ab_and (c x : Int64) : x.toUInt64 &&& c.toUInt64 = (x &&& c).toUInt64 := rfl
theorem ab_eq (x : UInt64) : x &&& 0x7fffffffffffffff = ks_ab x := by
  have h : (9223372036854775807 : Int64).toUInt64 = 0x7fffffffffffffff := by decide +kernel
  rw [← h]; exact ab_and 9223372036854775807 x.toInt64
section AB
variable {p : Program} {l : Launch} {e : Env} {R : Room} {s : State} {m : MethodId} {args : Array Value} {below : List Frame} {meth : Method} {c : Code} {Q : State → Prop} {D : va_G} {AD A : Nat → Prop} {nL cells slots : Nat} {w : va_W} {lv : List (Nat × Value)} {pc : Nat} {st : List Value} {cc : ByteArray} {Ts : List Cond} {own : String}
theorem g_absd (B : CallFix p m c cc nL s args Ts own) {index : Nat} {ws ws' : List Cond} {bc : ByteArray} (hg : GoodIn Ts (va_wsS own index ⟨"java/lang/Math", "abs", "(D)D"⟩ ws)) (hw : ws = Cond.code ⟨"java/lang/Math", "abs", "(D)D"⟩ bc 2 (some .double) :: ws') {x v : UInt64} (hn : vf_n64 x) (hv : ks_ab x = v) (hfr : 1 ≤ R.frames) (hlo : (st.map fun v => v.category).sum + 13 ≤ R.locals) (hce : cells ≤ R.cells) (hsl : slots ≤ R.slots) (hdg : decode cc pc = .ok (.invokestatic index, 3)) (kk : G p l e R s m args below meth c Q D AD A nL cells slots w lv (pc + 3) (.double v :: st)) : G p l e R s m args below meth c Q D AD A nL cells slots w lv pc (.double x :: st) := by
  subst hv
  subst hw
  intro H locs ls hP hD hS hl T hT X
  have ok : ∀ z ∈ va_wsS own index ⟨"java/lang/Math", "abs", "(D)D"⟩ (Cond.code ⟨"java/lang/Math", "abs", "(D)D"⟩ bc 2 (some .double) :: ws'), z.before args s = true := fun z h => B.2.2.2.2 z (hg z h).1
  have hlink := ok _ (List.mem_of_getElem? (i := 0) rfl)
  have hstat := ok _ (List.mem_of_getElem? (i := 1) rfl)
  have hinit := ok _ (List.mem_of_getElem? (i := 2) rfl)
  have hcode := ok _ (List.mem_of_getElem? (i := 3) rfl)
  obtain ⟨mk, hnamed⟩ := Cond.code_named hcode
  obtain ⟨methS, cS, hmethS, -, -, -, -, -, -, hsigS⟩ := Cond.code_spec hnamed hcode
  have hsigS : parseMethodDescriptor "(D)D" = some methS.sig := hsigS
  have hstatic := Cond.static_spec hnamed hmethS hstat
  obtain ⟨kS, hkS, -⟩ := className_of_methodNamed hnamed
  have hinitS : kS.init = .initialized := Cond.initialized_spec (findClass_of_methodNamed hnamed) hkS hinit
  obtain ⟨vm1, X1, hstep⟩ := X.invokestatic B.1 B.2.2.2.1 hlink hnamed hmethS hstatic hkS hinitS (by decide) (g := F0 m pc ls (.double x :: st)) rfl (argsL := [.double x]) (rest := st)
    (by have h := hsigS; rw [show parseMethodDescriptor "(D)D" = some ⟨[.double], some .double⟩ from by decide +kernel] at h; rw [← Option.some.inj h]; rfl) rfl (by rw [B.2.1]; exact hdg)
  obtain ⟨t, q1, q2⟩ := kk H locs ls hP hD hS hl (T.setVm vm1) hT X1
  refine ⟨t, hstep _ fun acts => ?_, q2⟩
  have hnamed1 : (T.setVm vm1).methodNamed? ⟨"java/lang/Math", "abs", "(D)D"⟩ = some mk := X1.named hnamed
  have hcodeU : (Cond.code ⟨"java/lang/Math", "abs", "(D)D"⟩ bc 2 (some .double)).before args (T.setVm vm1) = true := Cond.tabsOnly_warm (args' := args) (T := T.setVm vm1) X1.warmed _ rfl hcode
  obtain ⟨methM, cM, hmethM, hcodeM, -, hlocalsM, -, hlocksM, -, hsigM⟩ := Cond.code_spec hnamed1 hcodeU
  obtain ⟨kP, hkP, hkname⟩ := className_of_methodNamed hnamed1
  obtain ⟨hmnM, hmdM⟩ := name_of_methodNamed hnamed1 hmethM
  have hkP' : vm1.classes[mk.cls]? = some kP := hkP
  have hxP : kP.methods[mk.idx]? = some methM := by simpa [Vm.method?, hkP'] using hmethM
  have hbootP : kP.loader = none := Vm.bootOf_findClass (findClass_of_methodNamed hnamed1) hkP
  refine Jvm.Free.Fl.Abs.Steps.absD p (g := F0 m pc ls st) X1.here.top X1.here.above X1.here.running X1.here.runnable X1.here.alone X1.here.code (a := x) acts hkP hxP hbootP hkname hmnM hmdM hsigM hcodeM hlocalsM hlocksM
    (X1.room_calling (g := F0 m pc ls st) (by show ls.size = _; exact (B.2.2.1.trans hl.1.symm).symm) hmethM hcodeM (R' := {}) (by show 0 + 1 ≤ R.frames; omega) (by rw [hlocalsM]; show 2 * 0 + (st.map fun v => v.category).sum + (2 + 11) + 0 ≤ R.locals; omega) (by show cells + 0 ≤ R.cells; omega) (by show slots + 0 ≤ R.slots; omega)) hn (ig := .invokestatic index) (len := 3) (by rw [B.2.1]; exact hdg) ?_
  rw [ab_eq]
  exact q1
end AB
