set_option maxHeartbeats 4000000 in
set_option maxRecDepth 100000 in
theorem i_abs (l : Launch) {D : va_G} {cI cL cZ cQ : ClassId} (x : UInt64) (hx : vn_snl2d (x.toInt64 &&& 9223372036854775807) = false) : PM l yJ9_abs_294c1 wsJ9_abs_294c1 ({ frames := 1, cells := 0, slots := 0, locals := 60 } : Room) D (gTys cI cL cZ cQ) [.double x] [] (fun (_ : Unit) => True) (fun (_ : Unit) => some (.double (ks_ab x))) := by
  refine PM.ofG cJ9_abs_294c1 2 (some .double) (by decide +kernel) rfl (Nat.le_of_ble_eq_true rfl) ?_
  intro p e s m below meth c B hr hlocks hname hK hN
  refine g_dload_n B dJ9_abs_294c1_0 0 rfl ?_
  refine g_d2l (v := x.toInt64) B (List.mem_of_getElem? (i := 1) rfl) (List.mem_of_getElem? (i := 2) rfl) (List.mem_of_getElem? (i := 3) rfl) (List.mem_of_getElem? (i := 4) rfl) rfl (by decide) (by decide) dJ9_abs_294c1_1 ?_
  refine g_ldc2 (v := (9223372036854775807 : Int64)) B dJ9_abs_294c1_4 (List.mem_of_getElem? (i := 5) rfl) ?_
  refine g_land (v := (x.toInt64 &&& (9223372036854775807 : Int64))) B dJ9_abs_294c1_7 (rfl) ?_
  refine g_l2d (v := ((x.toInt64 &&& (9223372036854775807 : Int64))).toUInt64) B (List.mem_of_getElem? (i := 6) rfl) (List.mem_of_getElem? (i := 7) rfl) (List.mem_of_getElem? (i := 8) rfl) (List.mem_of_getElem? (i := 4) rfl) hx rfl (by decide) (by decide) dJ9_abs_294c1_8 ?_
  exact g_dret_p B hr hlocks () (rfl) (trivial) dJ9_abs_294c1_11

