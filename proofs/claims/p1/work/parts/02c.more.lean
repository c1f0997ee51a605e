/-! MY LAYER: more rows -/
section GL4
variable {p : Program} {l : Launch} {e : Env} {R : Room} {s : State} {m : MethodId} {args : Array Value} {below : List Frame} {meth : Method} {c : Code} {Q : State → Prop} {D : va_G} {AD A : Nat → Prop} {nL cells slots : Nat} {w : va_W} {lv : List (Nat × Value)} {pc : Nat} {st : List Value} {cc : ByteArray} {Ts : List Cond} {own : String} {tys : List (ClassId × FieldType)}
theorem g_eqi {x y : Int32} (h : x = y) (kk : G p l e R s m args below meth c Q D AD A nL cells slots w lv pc (.int y :: st)) : G p l e R s m args below meth c Q D AD A nL cells slots w lv pc (.int x :: st) := by subst h; exact kk
theorem g_eql {x y : Int64} (h : x = y) (kk : G p l e R s m args below meth c Q D AD A nL cells slots w lv pc (.long y :: st)) : G p l e R s m args below meth c Q D AD A nL cells slots w lv pc (.long x :: st) := by subst h; exact kk
theorem g_eqw {w2 : va_W} (h : w = w2) (kk : G p l e R s m args below meth c Q D AD A nL cells slots w2 lv pc st) : G p l e R s m args below meth c Q D AD A nL cells slots w lv pc st := by subst h; exact kk
theorem g_mmin (B : CallFix p m c cc nL s args Ts own) {index : Nat} {x y v : Int32} (hlink : Cond.methodLink own index Lib.Math.min.name ∈ Ts) (hstat : Cond.static Lib.Math.min.name ∈ Ts) (hini : Cond.initialized "java/lang/Math" ∈ Ts) (hcode : Cond.code Lib.Math.min.name Lib.Math.min.code 2 (some .int) ∈ Ts) (hframes : 1 ≤ R.frames) (hlocals : (st.map fun v => v.category).sum + 13 ≤ R.locals) (hc : cells ≤ R.cells) (hs : slots ≤ R.slots) (hdg : decode cc pc = .ok (.invokestatic index, 3)) (hv : (if y < x then y else x) = v) (kk : G p l e R s m args below meth c Q D AD A nL cells slots w lv (pc + 3) (.int v :: st)) : G p l e R s m args below meth c Q D AD A nL cells slots w lv pc (.int y :: .int x :: st) := by
  intro H locs ls hP hD hS hl
  subst hv
  exact va_mmin B.1 B.2.1 (B.2.2.1.trans hl.1.symm) B.2.2.2.1 (B.2.2.2.2 _ hlink) (B.2.2.2.2 _ hstat) (B.2.2.2.2 _ hini) (B.2.2.2.2 _ hcode) hframes hlocals hc hs hdg (kk H locs ls hP hD hS hl)
theorem g_mmax (B : CallFix p m c cc nL s args Ts own) {index : Nat} {x y v : Int32} (hlink : Cond.methodLink own index Lib.Math.max.name ∈ Ts) (hstat : Cond.static Lib.Math.max.name ∈ Ts) (hini : Cond.initialized "java/lang/Math" ∈ Ts) (hcode : Cond.code Lib.Math.max.name Lib.Math.max.code 2 (some .int) ∈ Ts) (hframes : 1 ≤ R.frames) (hlocals : (st.map fun v => v.category).sum + 13 ≤ R.locals) (hc : cells ≤ R.cells) (hs : slots ≤ R.slots) (hdg : decode cc pc = .ok (.invokestatic index, 3)) (hv : (if x < y then y else x) = v) (kk : G p l e R s m args below meth c Q D AD A nL cells slots w lv (pc + 3) (.int v :: st)) : G p l e R s m args below meth c Q D AD A nL cells slots w lv pc (.int y :: .int x :: st) := by
  intro H locs ls hP hD hS hl
  subst hv
  exact va_mmax B.1 B.2.1 (B.2.2.1.trans hl.1.symm) B.2.2.2.1 (B.2.2.2.2 _ hlink) (B.2.2.2.2 _ hstat) (B.2.2.2.2 _ hini) (B.2.2.2.2 _ hcode) hframes hlocals hc hs hdg (kk H locs ls hP hD hS hl)
theorem vp_cellI_congr {cA : ClassId} {n : Nat} {f f2 : Nat → Int32} (h : ∀ i, i < n → f i = f2 i) : vp_cell cA (n, .inl f) = vp_cell cA (n, .inl f2) := by
  rw [vp_cell_i, vp_cell_i]
  unfold arrV
  congr 1
  apply Array.ext
  · simp
  · intro i h1 h2
    simp at h1 h2 ⊢
    exact h i (by omega)
theorem g_arrI (q0 : Nat) {a : Nat} {cA : ClassId} {n : Nat} {f : Nat → Int32} (f2 : Nat → Int32) (ha : w[q0]? = some (a, .inl (cA, n, .inl f))) (h : ∀ i, i < n → f i = f2 i) {w2 : va_W} (hw2 : w.set q0 (a, .inl (cA, n, .inl f2)) = w2) (kk : G p l e R s m args below meth c Q D AD A nL cells slots w2 lv pc st) : G p l e R s m args below meth c Q D AD A nL cells slots w lv pc st := by
  intro H locs ls hP hD hS hl
  subst hw2
  refine kk H locs ls (fun k q hq => ?_) (hD.set ha) hS hl
  by_cases hk : k = q0
  · subst hk
    have hlt : k < w.length := (List.getElem?_eq_some_iff.mp ha).1
    rw [List.getElem?_set_self hlt] at hq
    cases hq
    show H[a]? = some (vp_cell cA (n, .inl f2))
    rw [← vp_cellI_congr h]
    exact hP k _ ha
  · rw [List.getElem?_set_ne (fun h => hk h.symm)] at hq
    exact hP k q hq
end GL4
/-- the bit k of a set -/
def hasB (S : Int64) (k : Nat) : Bool := decide (¬ (S &&& lShl 1 (nI k) = 0))
theorem hasB_0 (k : Nat) : hasB 0 k = false := by
  have : (0 : Int64) &&& lShl 1 (nI k) = 0 := Int64.zero_and
  simp [hasB, this]
theorem co64 {P : Nat → Prop} [DecidablePred P] (h : (List.range 64).all (fun i => decide (P i)) = true) {i : Nat} (hi : i < 64) : P i := by
  have := List.all_eq_true.mp h i (List.mem_range.mpr hi)
  exact of_decide_eq_true this
theorem hasB_1 {k : Nat} (h : k < 64) : hasB 1 k = decide (k = 0) := co64 (P := fun k => hasB 1 k = decide (k = 0)) (by decide +kernel) h
theorem hasB_2 {k : Nat} (h : k < 64) : hasB 2 k = decide (k = 1) := co64 (P := fun k => hasB 2 k = decide (k = 1)) (by decide +kernel) h
theorem bI_eq0 (b : Bool) : (bI b = 0) ↔ b = false := by cases b <;> decide
theorem lg_eq0 (x y : Int64) : (lg_cmp x y = 0) ↔ x = y := by
  unfold lg_cmp
  split
  · rename_i h
    constructor
    · intro h2; exact absurd h2 (by decide)
    · intro h2; subst h2; exact absurd h (Int64.lt_irrefl)
  · split
    · rename_i h; exact ⟨fun _ => by simpa using h, fun _ => rfl⟩
    · rename_i h1 h2; exact ⟨fun h => absurd h (by decide), fun h => absurd (by simpa using h) h2⟩
