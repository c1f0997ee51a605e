set_option maxHeartbeats 400000 in
set_option maxRecDepth 100000 in
theorem b_tell (l : Launch) {D : va_G} {cI cL cZ cQ : ClassId} (ar : Nat) (g : Nat → Nat)  : PM l yX6_tell wsX6_tell ({ frames := 0, cells := 0, slots := 0, locals := 0 } : Room) D (gTys cI cL cZ cQ) [.ref ar] [(ar, .inl (cI, 4, .inl (fun i => nI (g i))))] (fun (_ : Unit) => True) (fun (_ : Unit) => some (.int (nI (ks_tl g)))) := by
  refine PM.ofG cX6_tell 1 (some .int) (by decide +kernel) rfl (Nat.le_of_ble_eq_true rfl) ?_
  intro p e s m below meth c B hr hlocks hname hK hN
  refine g_sipush (v := (1000 : Int32)) B dX6_tell_0 (by decide) ?_
  refine g_aload_n B dX6_tell_3 0 rfl ?_
  refine g_iconst (v := (0 : Int32)) B dX6_tell_4 (by decide) ?_
  refine g_iald B hK 0 0 rfl rfl 0 rfl (by omega) (by omega) (v := nI (g 0)) rfl dX6_tell_5 ?_
  refine g_imul (v := nI (1000 * (g 0))) B dX6_tell_6 (pk_mul 1000 (g 0)) ?_
  refine g_bipush (v := (100 : Int32)) B dX6_tell_7 (by decide) ?_
  refine g_aload_n B dX6_tell_9 0 rfl ?_
  refine g_iconst (v := (1 : Int32)) B dX6_tell_10 (by decide) ?_
  refine g_iald B hK 0 0 rfl rfl 1 rfl (by omega) (by omega) (v := nI (g 1)) rfl dX6_tell_11 ?_
  refine g_imul (v := nI (100 * (g 1))) B dX6_tell_12 (pk_mul 100 (g 1)) ?_
  refine g_iadd (v := nI ((1000 * (g 0)) + (100 * (g 1)))) B dX6_tell_13 (nI_add (1000 * (g 0)) (100 * (g 1))) ?_
  refine g_bipush (v := (10 : Int32)) B dX6_tell_14 (by decide) ?_
  refine g_aload_n B dX6_tell_16 0 rfl ?_
  refine g_iconst (v := (2 : Int32)) B dX6_tell_17 (by decide) ?_
  refine g_iald B hK 0 0 rfl rfl 2 rfl (by omega) (by omega) (v := nI (g 2)) rfl dX6_tell_18 ?_
  refine g_imul (v := nI (10 * (g 2))) B dX6_tell_19 (pk_mul 10 (g 2)) ?_
  refine g_iadd (v := nI (((1000 * (g 0)) + (100 * (g 1))) + (10 * (g 2)))) B dX6_tell_20 (nI_add ((1000 * (g 0)) + (100 * (g 1))) (10 * (g 2))) ?_
  refine g_aload_n B dX6_tell_21 0 rfl ?_
  refine g_iconst (v := (3 : Int32)) B dX6_tell_22 (by decide) ?_
  refine g_iald B hK 0 0 rfl rfl 3 rfl (by omega) (by omega) (v := nI (g 3)) rfl dX6_tell_23 ?_
  refine g_iadd (v := nI ((((1000 * (g 0)) + (100 * (g 1))) + (10 * (g 2))) + (g 3))) B dX6_tell_24 (nI_add (((1000 * (g 0)) + (100 * (g 1))) + (10 * (g 2))) (g 3)) ?_
  exact g_iret_p B hr rfl hlocks () (by show some (Value.int _) = some (Value.int _); congr 2) (trivial) dX6_tell_25

