/-! MY LAYER: more rows -/
section GL4
variable {p : Program} {l : Launch} {e : Env} {R : Room} {s : State} {m : MethodId} {args : Array Value} {below : List Frame} {meth : Method} {c : Code} {Q : State → Prop} {D : va_G} {AD A : Nat → Prop} {nL cells slots : Nat} {w : va_W} {lv : List (Nat × Value)} {pc : Nat} {st : List Value} {cc : ByteArray} {Ts : List Cond} {own : String} {tys : List (ClassId × FieldType)}
theorem g_eqi {x y : Int32} (h : x = y) (kk : G p l e R s m args below meth c Q D AD A nL cells slots w lv pc (.int y :: st)) : G p l e R s m args below meth c Q D AD A nL cells slots w lv pc (.int x :: st) := by subst h; exact kk
theorem g_eql {x y : Int64} (h : x = y) (kk : G p l e R s m args below meth c Q D AD A nL cells slots w lv pc (.long y :: st)) : G p l e R s m args below meth c Q D AD A nL cells slots w lv pc (.long x :: st) := by subst h; exact kk
theorem g_eqw {w2 : va_W} (h : w = w2) (kk : G p l e R s m args below meth c Q D AD A nL cells slots w2 lv pc st) : G p l e R s m args below meth c Q D AD A nL cells slots w lv pc st := by subst h; exact kk
theorem g_mmin (B : CallFix p m c cc nL s args Ts own) {index : Nat} {x y v : Int32} (hlink : Cond.methodLink own index Lib.Math.min.name ∈ Ts) (hstat : Cond.static Lib.Math.min.name ∈ Ts) (hini : Cond.initialized "java/lang/Math" ∈ Ts) (hcode : Cond.code Lib.Math.min.name Lib.Math.min.code 2 (some .int) ∈ Ts) (hframes : 1 ≤ R.frames) (hlocals : (st.map fun v => v.category).sum + 13 ≤ R.locals) (hc : cells ≤ R.cells) (hs : slots ≤ R.slots) (hdg : decode cc pc = .ok (.invokestatic index, 3)) (hv : (if y < x then y else x) = v) (kk : G p l e R s m args below meth c Q D AD A nL cells slots w lv (pc + 3) (.int v :: st)) : G p l e R s m args below meth c Q D AD A nL cells slots w lv pc (.int y :: .int x :: st) := by
  intro H locs ls hP hD hS hl
  subst hv
  exact va_mmin B.1 B.2.1 (B.2.2.1.trans hl.1.symm) B.2.2.2.1 (B.2.2.2.2 _ hlink) (B.2.2.2.2 _ hstat) (B.2.2.2.2 _ hini) (B.2.2.2.2 _ hcode) hframes hlocals hc hs hdg (kk H locs ls hP hD hS hl)
theorem g_mmax (B : CallFix p m c cc nL s args Ts own) {index : Nat} {x y v : Int32} (hlink : Cond.methodLink own index Lib.Math.max.name ∈ Ts) (hstat : Cond.static Lib.Math.max.name ∈ Ts) (hini : Cond.initialized "java/lang/Math" ∈ Ts) (hcode : Cond.code Lib.Math.max.name Lib.Math.max.code 2 (some .int) ∈ Ts) (hframes : 1 ≤ R.frames) (hlocals : (st.map fun v => v.category).sum + 13 ≤ R.locals) (hc : cells ≤ R.cells) (hs : slots ≤ R.slots) (hdg : decode cc pc = .ok (.invokestatic index, 3)) (hv : (if x < y then y else x) = v) (kk : G p l e R s m args below meth c Q D AD A nL cells slots w lv (pc + 3) (.int v :: st)) : G p l e R s m args below meth c Q D AD A nL cells slots w lv pc (.int y :: .int x :: st) := by
  intro H locs ls hP hD hS hl
  subst hv
  exact va_mmax B.1 B.2.1 (B.2.2.1.trans hl.1.symm) B.2.2.2.1 (B.2.2.2.2 _ hlink) (B.2.2.2.2 _ hstat) (B.2.2.2.2 _ hini) (B.2.2.2.2 _ hcode) hframes hlocals hc hs hdg (kk H locs ls hP hD hS hl)
theorem vp_cellI_congr {cA : ClassId} {n : Nat} {f f2 : Nat → Int32} (h : ∀ i, i < n → f i = f2 i) : vp_cell cA (n, .inl f) = vp_cell cA (n, .inl f2) := by
  rw [vp_cell_i, vp_cell_i]
  unfold arrV
  congr 1
  apply Array.ext
  · simp
  · intro i h1 h2
    simp at h1 h2 ⊢
    exact h i (by omega)
theorem g_arrI (q0 : Nat) {a : Nat} {cA : ClassId} {n : Nat} {f : Nat → Int32} (f2 : Nat → Int32) (ha : w[q0]? = some (a, .inl (cA, n, .inl f))) (h : ∀ i, i < n → f i = f2 i) {w2 : va_W} (hw2 : w.set q0 (a, .inl (cA, n, .inl f2)) = w2) (kk : G p l e R s m args below meth c Q D AD A nL cells slots w2 lv pc st) : G p l e R s m args below meth c Q D AD A nL cells slots w lv pc st := by
  intro H locs ls hP hD hS hl
  subst hw2
  refine kk H locs ls (fun k q hq => ?_) (hD.set ha) hS hl
  by_cases hk : k = q0
  · subst hk
    have hlt : k < w.length := (List.getElem?_eq_some_iff.mp ha).1
    rw [List.getElem?_set_self hlt] at hq
    cases hq
    show H[a]? = some (vp_cell cA (n, .inl f2))
    rw [← vp_cellI_congr h]
    exact hP k _ ha
  · rw [List.getElem?_set_ne (fun h => hk h.symm)] at hq
    exact hP k q hq
end GL4
/-- the bit k of a set -/
def hasB (S : Int64) (k : Nat) : Bool := decide (¬ (lShr S (nI k) &&& 1 = 0))
theorem hasB_0 (k : Nat) : hasB 0 k = false := by
  have : lShr 0 (nI k) &&& (1 : Int64) = 0 := by
    unfold lShr
    rw [show (0 : Int64).toUInt64 = 0 from rfl, UInt64.zero_shiftRight]
    rfl
  simp [hasB, this]
theorem co64 {P : Nat → Prop} [DecidablePred P] (h : (List.range 64).all (fun i => decide (P i)) = true) {i : Nat} (hi : i < 64) : P i := by
  have := List.all_eq_true.mp h i (List.mem_range.mpr hi)
  exact of_decide_eq_true this
theorem hasB_1 {k : Nat} (h : k < 64) : hasB 1 k = decide (k = 0) := co64 (P := fun k => hasB 1 k = decide (k = 0)) (by decide +kernel) h
theorem hasB_2 {k : Nat} (h : k < 64) : hasB 2 k = decide (k = 1) := co64 (P := fun k => hasB 2 k = decide (k = 1)) (by decide +kernel) h
theorem lg_self (x : Int64) : lg_cmp x x = 0 := by simp [lg_cmp, Int64.lt_irrefl]
theorem bI_eq0 (b : Bool) : (bI b = 0) ↔ b = false := by cases b <;> decide
theorem lg_eq0 (x y : Int64) : (lg_cmp x y = 0) ↔ x = y := by
  unfold lg_cmp
  split
  · rename_i h
    constructor
    · intro h2; exact absurd h2 (by decide)
    · intro h2; subst h2; exact absurd h (Int64.lt_irrefl)
  · split
    · rename_i h; exact ⟨fun _ => by simpa using h, fun _ => rfl⟩
    · rename_i h1 h2; exact ⟨fun h => absurd h (by decide), fun h => absurd (by simpa using h) h2⟩
/-! MY LAYER: new arrays and objects -/
section GL5
variable {p : Program} {l : Launch} {e : Env} {R : Room} {s : State} {m : MethodId} {args : Array Value} {below : List Frame} {meth : Method} {c : Code} {Q : State → Prop} {D : va_G} {A : Nat → Prop} {nL cells slots : Nat} {w : va_W} {lv : List (Nat × Value)} {pc : Nat} {st : List Value} {cc : ByteArray} {Ts : List Cond} {own : String} {tys : List (ClassId × FieldType)}
theorem va_cls_eq {ty : FieldType} {c1 c2 : ClassId} (h0 : refKind ty = false) (h1 : va_RA s c1 ty) (h2 : va_RA s c2 ty) : c1 = c2 := by
  cases ty with
  | object C => cases h0
  | array t => exact Option.some.inj ((show s.vm.findClass _ = some c1 from h1).symm.trans h2)
  | _ => exact Option.some.inj ((show s.vm.findClass _ = some c1 from h1).symm.trans h2)
theorem g_newa (B : CallFix p m c cc nL s args Ts own) (hK : va_K D vwCl tys s) (hA : ∀ q, s.heap.size ≤ q → A q) (t0 : Nat) {cA : ClassId} {ty : FieldType} (ht : tys[t0]? = some (cA, ty)) (hrk : refKind ty = false) {atype : ArrayType} (harr : Cond.arrayClass (newarray.typeOf atype) ∈ Ts) (hty : newarray.typeOf atype = ty) {n : Int32} {N' : Nat} (a0 : vp_A) (ha : ∀ cA : ClassId, vp_cell cA a0 = arrV cA N' (fun _ => defaultValue ty)) (hn : ¬ n < 0) (hN : n.toNatClampNeg = N') (hbytes : N' * componentBytes ty ≤ 536870912) (hcells : cells + 1 ≤ R.cells) (hslots : slots + N' ≤ R.slots) (hdg : decode cc pc = .ok (.newarray atype, 2))
    (kk : ∀ q : Nat, G p l e R s m args below meth c Q D A A nL (cells + 1) (slots + N') (w ++ [(q, .inl (cA, a0))]) lv (pc + 2) (.ref q :: st)) : G p l e R s m args below meth c Q D A A nL cells slots w lv pc (.int n :: st) := by
  intro H locs ls hP hD hS hl
  refine va_newa B.1 B.2.1 (B.2.2.2.2 _ harr) hty hK hP hD hS hA ha hn hN hbytes hcells hslots hdg (fun q cB H1 hK1 hP1 hD1 hS1 => ?_)
  have hB := (hK1.2 tys.length (cB, ty) (by simp)).2
  have hC := (hK.2 t0 _ ht).2
  have e1 : cA = cB := va_cls_eq hrk hC hB
  subst e1
  exact kk q H1 locs ls hP1 hD1 hS1 hl
theorem g_new (B : CallFix p m c cc nL s args Ts own) (hK : va_K D vwCl tys s) (hA : ∀ q, s.heap.size ≤ q → A q) {C : String} {T : u_T} {N ci index : Nat} (hin : ∀ z ∈ u_ws C T N, z ∈ Ts) (ty : Nat → FieldType) (hty : ∀ k, k < N → parseFieldDescriptor (T k).2.2.1 = some (ty k)) (hcl : Cond.classLink own index C ∈ Ts) (hinst : Cond.instantiable C N ∈ Ts) (hini : Cond.initialized C ∈ Ts) (hc : vwCl[ci]? = some (C, T, N)) (fs : List Value) (hfs : ∀ j, j < N → defaultValue (ty j) = vp_V fs j) (hcells : cells + 1 ≤ R.cells) (hslots : slots + N ≤ R.slots) (hdg : decode cc pc = .ok (.new index, 3))
    (kk : ∀ q : Nat, G p l e R s m args below meth c Q D A A nL (cells + 1) (slots + N) (w ++ [(q, .inr (ci, fs))]) lv (pc + 3) (.ref q :: st)) : G p l e R s m args below meth c Q D A A nL cells slots w lv pc st := by
  intro H locs ls hP hD hS hl
  exact va_new B.1 B.2.1 B.2.2.2.2 hin ty hty B.2.2.2.1 (B.2.2.2.2 _ hcl) (B.2.2.2.2 _ hinst) (B.2.2.2.2 _ hini) hK hP hD hS hA hc hfs hcells hslots hdg (fun q H1 hP1 hD1 hS1 => kk q H1 locs ls hP1 hD1 hS1 hl)
theorem g_objInit {AD : Nat → Prop} (B : CallFix p m c cc nL s args Ts own) {idx a : Nat} (hlink : Cond.methodLink own idx objectInit ∈ Ts) (hinst : Cond.instanceMethod objectInit ∈ Ts) (hcode : Cond.code objectInit ⟨#[0xb1]⟩ 1 none ∈ Ts) (hframes : 1 ≤ R.frames) (hlocals : (st.map fun v => v.category).sum + 12 ≤ R.locals) (hdg : decode cc pc = .ok (.invokespecial idx, 3)) (kk : G p l e R s m args below meth c Q D AD A nL cells slots w lv (pc + 3) st) : G p l e R s m args below meth c Q D AD A nL cells slots w lv pc (.ref a :: st) := by
  intro H locs ls hP hD hS hl
  exact W.objInit B.1 B.2.1 B.2.2.2.1 (B.2.2.2.2 _ hlink) (B.2.2.2.2 _ hinst) (B.2.2.2.2 _ hcode) rfl (hl.1.trans B.2.2.1.symm) rfl hdg hframes (by show 2 * 0 + _ + 12 ≤ _; omega) (kk H locs ls hP hD hS hl)
theorem cellI_new (n : Nat) : ∀ cA : ClassId, vp_cell cA (n, .inl (fun _ => (0 : Int32))) = arrV cA n (fun _ => defaultValue .int) := fun cA => by rw [vp_cell_i]; rfl
theorem cellZ_new (n : Nat) : ∀ cA : ClassId, vp_cell cA (n, .inl (fun _ => (0 : Int32))) = arrV cA n (fun _ => defaultValue .boolean) := fun cA => by rw [vp_cell_i]; rfl
theorem cellL_new (n : Nat) : ∀ cA : ClassId, vp_cell cA (n, .inr (.inl (fun _ => (0 : Int64)))) = arrV cA n (fun _ => defaultValue .long) := fun cA => rfl
end GL5
/-! MY LAYER: references answered, rows copied -/
section GL6
variable {p : Program} {l : Launch} {e : Env} {R : Room} {s : State} {m : MethodId} {args : Array Value} {below : List Frame} {meth : Method} {c : Code} {Q : State → Prop} {D : va_G} {AD A : Nat → Prop} {nL cells slots : Nat} {w : va_W} {lv : List (Nat × Value)} {pc : Nat} {st : List Value} {cc : ByteArray} {Ts : List Cond} {own : String} {tys : List (ClassId × FieldType)}
theorem g_aret_w {S : Type} {post : S → Prop} {v : S → Option Value} {w' : S → va_W} {x : Nat} {ty : FieldType} (B : CallFix p m c cc nL s args Ts own) (hr : meth.sig.returnType = some ty) (hrt : (∃ n, ty = .object n) ∨ ∃ t, ty = .array t) (hlocks : meth.locks = false) (u : S) (hv : v u = some (.ref x)) (hp : post u) (is : List Nat) (hn : va_nd is = true) (hw : is.map (fun i => w[i]?) = (w' u).map some) (hdg : decode cc pc = .ok (.areturn, 1)) : G p l e R s m args below meth c (MQ below (gQw D post v w' A) args s cells slots A) D A A nL cells slots w lv pc [.ref x] := by
  intro H locs ls hP hD hS hl
  exact W.aret B.1 B.2.1 hr hrt (Or.inr ⟨x, rfl⟩) (fun t ht hW => ⟨u, by rw [hv], hp, by rw [ht]; exact gP_sub hP is hw, hD.sub is hn hw, hS.F ht⟩) hS.2.2 hdg hlocks
theorem g_copyi (B : CallFix p m c cc nL s args Ts own) {index : Nat} (hK : va_K D vwCl tys s) (hlink : Cond.methodLink own index arraycopyName ∈ Ts) (hnat : Cond.native arraycopyName ∈ Ts) (hstat : Cond.static arraycopyName ∈ Ts) (hini : Cond.initialized "java/lang/System" ∈ Ts) (q0 q1 t0 : Nat) {a0 a : Nat} {c0 : ClassId} {n0 n1 : Nat} {f h : Nat → Int32} {ty : FieldType} (ha0 : w[q0]? = some (a0, .inl (c0, n0, .inl f))) (ha1 : w[q1]? = some (a, .inl (c0, n1, .inl h))) (ht0 : tys[t0]? = some (c0, ty)) (hprim : refKind ty = false) {sp dp n : Int32} (sp' dp' n' : Nat) (h1 : sp = nI sp') (h2 : dp = nI dp') (h3 : n = nI n') (hb : sp' < 2 ^ 31 ∧ dp' < 2 ^ 31 ∧ n' < 2 ^ 31) (h4 : sp' + n' ≤ n0) (h5 : dp' + n' ≤ n1) (hfit : ∀ i, i < n' → fits ty (.int (f (sp' + i))) = true) (f2 : Nat → Int32) (hf2 : ∀ i, i < n1 → va_cpy f h sp' dp' n' i = f2 i) {w2 : va_W} (hw2 : w.set q1 (a, .inl (c0, n1, .inl f2)) = w2) (hAD : ∀ q, AD q → A q)
    (hframes : 1 ≤ R.frames) (hlocals : (st.map fun v => v.category).sum + (nativeFrameWords "java/lang/System" "arraycopy" 5 + 11) ≤ R.locals) (hdg : decode cc pc = .ok (.invokestatic index, 3)) (kk : G p l e R s m args below meth c Q D AD A nL cells slots w2 lv (pc + 3) st) : G p l e R s m args below meth c Q D AD A nL cells slots w lv pc (.int n :: .int dp :: .ref a :: .int sp :: .ref a0 :: st) := by
  subst hw2
  have e1 : sp.toNatClampNeg = sp' := by rw [h1, nI_clamp hb.1]
  have e2 : dp.toNatClampNeg = dp' := by rw [h2, nI_clamp hb.2.1]
  have e3 : n.toNatClampNeg = n' := by rw [h3, nI_clamp hb.2.2]
  have kk2 : G p l e R s m args below meth c Q D AD A nL cells slots (w.set q1 (a, .inl (c0, n1, .inl (va_cpy f h sp' dp' n')))) lv (pc + 3) st := by
    have hlt : q1 < w.length := (List.getElem?_eq_some_iff.mp ha1).1
    exact g_arrI q1 f2 (by rw [List.getElem?_set_self hlt]) hf2 (by rw [List.set_set]) kk
  intro H locs ls hP hD hS hl
  refine va_copyi B.1 B.2.1 (B.2.2.1.trans hl.1.symm) B.2.2.2.1 (B.2.2.2.2 _ hlink) (B.2.2.2.2 _ hnat) (B.2.2.2.2 _ hstat) (B.2.2.2.2 _ hini) hK hP (hD.weaken (fun _ q _ h => hAD _ h)) hS q0 q1 t0 t0 ha0 ha1 ht0 ht0 hprim (by rw [h1]; exact nI_pos hb.1) (by rw [h2]; exact nI_pos hb.2.1) (by rw [h3]; exact nI_pos hb.2.2) (by rw [e1, e3]; exact h4) (by rw [e2, e3]; exact h5) (fun i hi => by rw [e1]; exact hfit i (by omega)) hframes hlocals hdg (fun H1 locs1 hP1 hD1 hS1 => ?_)
  rw [e1, e2, e3] at hP1
  exact kk2 H1 locs1 ls hP1 (hD.set ha1) hS1 hl
theorem g_dret_w {S : Type} {post : S → Prop} {v : S → Option Value} {w' : S → va_W} {x : UInt64} (B : CallFix p m c cc nL s args Ts own) (hr : meth.sig.returnType = some .double) (hlocks : meth.locks = false) (u : S) (hv : v u = some (.double x)) (hp : post u) (is : List Nat) (hn : va_nd is = true) (hw : is.map (fun i => w[i]?) = (w' u).map some) (hdg : decode cc pc = .ok (.dreturn, 1)) : G p l e R s m args below meth c (MQ below (gQw D post v w' A) args s cells slots A) D A A nL cells slots w lv pc [.double x] := by
  intro H locs ls hP hD hS hl
  exact W.dret B.1 B.2.1 hr (fun t ht hW => ⟨u, by rw [hv], hp, by rw [ht]; exact gP_sub hP is hw, hD.sub is hn hw, hS.F ht⟩) hS.2.2 hdg hlocks
theorem g_dret_p {S : Type} {post : S → Prop} {v : S → Option Value} {x : UInt64} (B : CallFix p m c cc nL s args Ts own) (hr : meth.sig.returnType = some .double) (hlocks : meth.locks = false) (u : S) (hv : v u = some (.double x)) (hp : post u) (hdg : decode cc pc = .ok (.dreturn, 1)) : G p l e R s m args below meth c (MQ below (gQp post v) args s cells slots (fun _ => False)) D AD (fun _ => False) nL cells slots w lv pc [.double x] := by
  intro H locs ls hP hD hS hl
  exact W.dret B.1 B.2.1 hr (fun t ht hW => ⟨u, by rw [hv], hp, hS.F ht⟩) hS.2.2 hdg hlocks
end GL6
/-- v is in low .. high -/
def inR (v low high : Int32) : Bool := decide (low ≤ v) && decide (v ≤ high)
theorem inR_nI {v : Int32} {h : Int32} {n : Nat} (hh : h = nI n) (hn : n < 2 ^ 31) (hv : inR v 0 h = true) : ∃ k, k ≤ n ∧ v = nI k := by
  simp only [inR, Bool.and_eq_true, decide_eq_true_eq] at hv
  obtain ⟨h1, h2⟩ := hv
  obtain ⟨j, hj, rfl⟩ := nI_of (x := v) (by rw [Int32.not_lt]; exact h1)
  subst hh
  exact ⟨j, (nI_leI hj hn).mp h2, rfl⟩
