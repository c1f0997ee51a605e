/-! two rules more -/
section GL9
variable {p : Program} {l : Launch} {e : Env} {R : Room} {s : State} {m : MethodId} {args : Array Value} {below : List Frame} {meth : Method} {c : Code} {Q : State → Prop} {D : va_G} {AD A : Nat → Prop} {nL cells slots : Nat} {w : va_W} {lv : List (Nat × Value)} {pc : Nat} {st : List Value} {cc : ByteArray} {Ts : List Cond} {own : String}
theorem g_tif_ge (B : CallFix p m c cc nL s args Ts own) {k : Nat} {off : Int} {tgt : Nat} (hdg : decode cc pc = .ok (.ifCond .ge off, 3)) (ht : (pc : Int) + off = (tgt : Int)) (kt : k < 12 → G p l e R s m args below meth c Q D AD A nL cells slots w lv tgt st) (kf : ¬ k < 12 → G p l e R s m args below meth c Q D AD A nL cells slots w lv (pc + 3) st) : G p l e R s m args below meth c Q D AD A nL cells slots w lv pc (.int (ks_tI k) :: st) :=
  g_if_ge B hdg ht (fun h => kt (tI_ge.mp h)) (fun h => kf (fun q => h (tI_ge.mpr q)))
end GL9
