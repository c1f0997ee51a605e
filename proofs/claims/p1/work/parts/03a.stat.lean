/-! the class: statics -/

set_option maxHeartbeats 4000000 in
set_option maxRecDepth 100000 in
theorem c_X5_bit (l : Launch) {D : va_G} {cI cL cZ : ClassId} (k : Nat) (hk : k < 64) : PM l yX5_bit wsX5_bit ({ frames := 0, cells := 0, slots := 0, locals := 0 } : Room) D (gTys cI cL cZ) [.int (nI k)] [] (fun (r : Int64) => r = lShl 1 (nI k)) (fun (r : Int64) => some (.long r)) := by
  refine PM.ofG cX5_bit 1 (some .long) (by decide +kernel) rfl (Nat.le_of_ble_eq_true rfl) ?_
  intro p e s m below meth c B hr hlocks hname hK hN
  refine g_lconst (v := (1 : Int64)) B dX5_bit_0 rfl ?_
  refine g_iload_n B dX5_bit_1 0 rfl ?_
  refine g_lshl (v := lShl (1 : Int64) (nI k)) B dX5_bit_2 rfl ?_
  exact g_lret_p B hr hlocks (lShl (1 : Int64) (nI k)) (rfl) (by first | rfl | omega) dX5_bit_3

set_option maxHeartbeats 4000000 in
set_option maxRecDepth 100000 in
theorem c_X5_isNode_n (l : Launch) {D : va_G} {cI cL cZ : ClassId} (k : Nat) (hk : k < 2 ^ 31) : PM l yX5_isNode wsX5_isNode ({ frames := 0, cells := 0, slots := 0, locals := 0 } : Room) D (gTys cI cL cZ) [.int (nI k)] [] (fun (r : Int32) => r = if k < 12 then 1 else 0) (fun (r : Int32) => some (.int r)) := by
  refine PM.ofG cX5_isNode 1 (some .boolean) (by decide +kernel) rfl (Nat.le_of_ble_eq_true rfl) ?_
  intro p e s m below meth c B hr hlocks hname hK hN
  refine g_iload_n B dX5_isNode_0 0 rfl ?_
  refine g_nif_lt (tgt := 14) B k rfl (by omega) dX5_isNode_1 (by decide) ?_
  refine g_iload_n B dX5_isNode_4 0 rfl ?_
  refine g_bipush (v := (12 : Int32)) B dX5_isNode_5 (by decide) ?_
  refine g_ncmp_ge (tgt := 14) B k 12 rfl rfl (by omega) (by omega) dX5_isNode_7 (by decide) (fun c1 => ?_) (fun c1 => ?_)
  · refine g_iconst (v := (0 : Int32)) B dX5_isNode_14 (by decide) ?_
    exact g_iret_p B hr rfl hlocks (0 : Int32) (rfl) (by first | rw [if_pos (by omega)] | rw [if_neg (by omega)]) dX5_isNode_15
  · refine g_iconst (v := (1 : Int32)) B dX5_isNode_10 (by decide) ?_
    refine g_goto (tgt := 15) B dX5_isNode_11 (by decide) ?_
    exact g_iret_p B hr rfl hlocks (1 : Int32) (rfl) (by first | rw [if_pos (by omega)] | rw [if_neg (by omega)]) dX5_isNode_15

set_option maxHeartbeats 4000000 in
set_option maxRecDepth 100000 in
theorem c_X5_isNode_m (l : Launch) {D : va_G} {cI cL cZ : ClassId}   : PM l yX5_isNode wsX5_isNode ({ frames := 0, cells := 0, slots := 0, locals := 0 } : Room) D (gTys cI cL cZ) [.int (-1 : Int32)] [] (fun (_ : Unit) => True) (fun (_ : Unit) => some (.int (0 : Int32))) := by
  refine PM.ofG cX5_isNode 1 (some .boolean) (by decide +kernel) rfl (Nat.le_of_ble_eq_true rfl) ?_
  intro p e s m below meth c B hr hlocks hname hK hN
  refine g_iload_n B dX5_isNode_0 0 rfl ?_
  refine g_if_lt (tgt := 14) B dX5_isNode_1 (by decide) (fun _ => ?_) (fun c1 => absurd (by decide) c1)
  refine g_iconst (v := (0 : Int32)) B dX5_isNode_14 (by decide) ?_
  exact g_iret_p B hr rfl hlocks () (rfl) (trivial) dX5_isNode_15

