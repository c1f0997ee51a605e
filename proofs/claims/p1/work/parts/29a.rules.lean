/-! the rules of the law's own array -/
section GLA
variable {p : Program} {l : Launch} {e : Env} {R : Room} {s : State} {m : MethodId} {args : Array Value} {below : List Frame} {meth : Method} {c : Code} {Q : State → Prop} {D : va_G} {AD A : Nat → Prop} {nL cells slots : Nat} {w : va_W} {lv : List (Nat × Value)} {pc : Nat} {st : List Value} {cc : ByteArray} {Ts : List Cond} {own : String}
theorem g_sld (B : CallFix p m c cc nL s args Ts own) {b L : Nat} {xs : Nat → Int32} (hX : va_X b L xs s s.heap) (hbl : b < s.heap.size) (hbA : ¬ A b) {i : Int32} (k : Nat) (hi : i = nI k) (hk : k < L) (hn : L < 2 ^ 31) {v : Int32} (hv : xs k = v) (hdg : decode cc pc = .ok (.iaload, 1))
    (kk : G p l e R s m args below meth c Q D AD A nL cells slots w lv (pc + 1) (.int v :: st)) : G p l e R s m args below meth c Q D AD A nL cells slots w lv pc (.int i :: .ref b :: st) := by
  subst hi; subst hv
  intro H locs ls hP hD hS hl
  refine va_sld B.1 B.2.1 hX hbl hbA hS (vp_in_nI hk hn) hdg ?_
  rw [nI_clamp (Nat.lt_trans hk hn)]
  exact kk H locs ls hP hD hS hl
theorem g_slen (B : CallFix p m c cc nL s args Ts own) {b L : Nat} {xs : Nat → Int32} (hX : va_X b L xs s s.heap) (hbl : b < s.heap.size) (hbA : ¬ A b) (hdg : decode cc pc = .ok (.arraylength, 1))
    (kk : G p l e R s m args below meth c Q D AD A nL cells slots w lv (pc + 1) (.int (Int32.ofNat L) :: st)) : G p l e R s m args below meth c Q D AD A nL cells slots w lv pc (.ref b :: st) := by
  intro H locs ls hP hD hS hl
  exact va_slen B.1 B.2.1 hX hbl hbA hS hdg (kk H locs ls hP hD hS hl)
theorem g_dcmp (B : CallFix p m c cc nL s args Ts own) {x y : UInt64} {op : CmpOp} {v : Int32} (hdg : decode cc pc = .ok (.dcmp op, 1)) (hv : Op.cmpValue (FP.dcmp x y) op = v)
    (kk : G p l e R s m args below meth c Q D AD A nL cells slots w lv (pc + 1) (.int v :: st)) : G p l e R s m args below meth c Q D AD A nL cells slots w lv pc (.double y :: .double x :: st) := by
  subst hv
  intro H locs ls hP hD hS hl
  exact lv_dcmp B.1 B.2.1 hdg (kk H locs ls hP hD hS hl)
end GLA
