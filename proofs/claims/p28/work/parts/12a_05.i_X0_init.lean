set_option maxHeartbeats 4000000 in
set_option maxRecDepth 100000 in
theorem i_X0_init (l : Launch) {D : va_G} {cI cL cZ cQ : ClassId} (ha : Nat)  : WM l yX0_init wsX0_init ({ frames := 1, cells := 4, slots := 164, locals := 20 } : Room) D (gTys cI cL cZ cQ) [.ref ha] [(ha, .inr (0, [.null, .null, .null, .null, .int (0 : Int32), .long (0 : Int64)]))] (fun (q : Nat × Nat × Nat × Nat) => True) (fun (q : Nat × Nat × Nat × Nat) => none) (fun (q : Nat × Nat × Nat × Nat) => [(ha, .inr (0, [.ref q.1, .ref q.2.1, .ref q.2.2.1, .ref q.2.2.2, .int (nI 0), .long (0 : Int64)])), (q.1, .inl (cI, 41, .inl (fun _ => (0 : Int32)))), (q.2.1, .inl (cI, 41, .inl (fun _ => (0 : Int32)))), (q.2.2.1, .inl (cI, 41, .inl (fun i => nI (ks_z0 i)))), (q.2.2.2, .inl (cL, 41, .inr (.inl (fun _ => (0 : Int64)))))]) := by
  refine WM.ofG cX0_init 1 none (by decide +kernel) rfl (Nat.le_of_ble_eq_true rfl) ?_
  intro p e s m below meth c A hA B hr hlocks hname hK hN
  refine g_aload_n B dX0_init_0 0 rfl ?_
  refine g_objInit B (List.mem_of_getElem? (i := 1) rfl) (List.mem_of_getElem? (i := 2) rfl) (List.mem_of_getElem? (i := 3) rfl) (by decide) (by decide) dX0_init_1 ?_
  refine g_aload_n B dX0_init_4 0 rfl ?_
  refine g_bipush (v := (41 : Int32)) B dX0_init_5 (by decide) ?_
  refine g_newa B hK hA 0 rfl rfl (List.mem_of_getElem? (i := 4) rfl) rfl (41, .inl (fun _ => (0 : Int32))) (cellI_new 41) (by decide) (by decide) (by decide) (by decide) (by decide) dX0_init_7 (fun q1 => ?_)
  refine g_eqw (w2 := [(ha, .inr (0, [.null, .null, .null, .null, .int (0 : Int32), .long (0 : Int64)])), (q1, .inl (cI, 41, .inl (fun _ => (0 : Int32))))]) rfl ?_
  refine g_putF (C := RX0) (T := TX0) (N := 6) (ci := 0) B hK hin_X0_init_RX0 0 rfl rfl 0 (by decide) tyX0 tyX0_ok nmX0 (List.mem_of_getElem? (i := 5) rfl) rfl rfl hname rfl (ty := .array .int) (v := .ref q1) (by decide +kernel) rfl rfl (Nat.le_of_ble_eq_true rfl) (w2 := [(ha, .inr (0, [.ref q1, .null, .null, .null, .int (0 : Int32), .long (0 : Int64)])), (q1, .inl (cI, 41, .inl (fun _ => (0 : Int32))))]) rfl (fun _ h => h) dX0_init_9 ?_
  refine g_aload_n B dX0_init_12 0 rfl ?_
  refine g_bipush (v := (41 : Int32)) B dX0_init_13 (by decide) ?_
  refine g_newa B hK hA 0 rfl rfl (List.mem_of_getElem? (i := 4) rfl) rfl (41, .inl (fun _ => (0 : Int32))) (cellI_new 41) (by decide) (by decide) (by decide) (by decide) (by decide) dX0_init_15 (fun q2 => ?_)
  refine g_eqw (w2 := [(ha, .inr (0, [.ref q1, .null, .null, .null, .int (0 : Int32), .long (0 : Int64)])), (q1, .inl (cI, 41, .inl (fun _ => (0 : Int32)))), (q2, .inl (cI, 41, .inl (fun _ => (0 : Int32))))]) rfl ?_
  refine g_putF (C := RX0) (T := TX0) (N := 6) (ci := 0) B hK hin_X0_init_RX0 0 rfl rfl 1 (by decide) tyX0 tyX0_ok nmX0 (List.mem_of_getElem? (i := 6) rfl) rfl rfl hname rfl (ty := .array .int) (v := .ref q2) (by decide +kernel) rfl rfl (Nat.le_of_ble_eq_true rfl) (w2 := [(ha, .inr (0, [.ref q1, .ref q2, .null, .null, .int (0 : Int32), .long (0 : Int64)])), (q1, .inl (cI, 41, .inl (fun _ => (0 : Int32)))), (q2, .inl (cI, 41, .inl (fun _ => (0 : Int32))))]) rfl (fun _ h => h) dX0_init_17 ?_
  refine g_aload_n B dX0_init_20 0 rfl ?_
  refine g_bipush (v := (41 : Int32)) B dX0_init_21 (by decide) ?_
  refine g_newa B hK hA 0 rfl rfl (List.mem_of_getElem? (i := 4) rfl) rfl (41, .inl (fun _ => (0 : Int32))) (cellI_new 41) (by decide) (by decide) (by decide) (by decide) (by decide) dX0_init_23 (fun q3 => ?_)
  refine g_eqw (w2 := [(ha, .inr (0, [.ref q1, .ref q2, .null, .null, .int (0 : Int32), .long (0 : Int64)])), (q1, .inl (cI, 41, .inl (fun _ => (0 : Int32)))), (q2, .inl (cI, 41, .inl (fun _ => (0 : Int32)))), (q3, .inl (cI, 41, .inl (fun _ => (0 : Int32))))]) rfl ?_
  refine g_putF (C := RX0) (T := TX0) (N := 6) (ci := 0) B hK hin_X0_init_RX0 0 rfl rfl 2 (by decide) tyX0 tyX0_ok nmX0 (List.mem_of_getElem? (i := 7) rfl) rfl rfl hname rfl (ty := .array .int) (v := .ref q3) (by decide +kernel) rfl rfl (Nat.le_of_ble_eq_true rfl) (w2 := [(ha, .inr (0, [.ref q1, .ref q2, .ref q3, .null, .int (0 : Int32), .long (0 : Int64)])), (q1, .inl (cI, 41, .inl (fun _ => (0 : Int32)))), (q2, .inl (cI, 41, .inl (fun _ => (0 : Int32)))), (q3, .inl (cI, 41, .inl (fun _ => (0 : Int32))))]) rfl (fun _ h => h) dX0_init_25 ?_
  refine g_aload_n B dX0_init_28 0 rfl ?_
  refine g_bipush (v := (41 : Int32)) B dX0_init_29 (by decide) ?_
  refine g_newa B hK hA 1 rfl rfl (List.mem_of_getElem? (i := 8) rfl) rfl (41, .inr (.inl (fun _ => (0 : Int64)))) (cellL_new 41) (by decide) (by decide) (by decide) (by decide) (by decide) dX0_init_31 (fun q4 => ?_)
  refine g_eqw (w2 := [(ha, .inr (0, [.ref q1, .ref q2, .ref q3, .null, .int (0 : Int32), .long (0 : Int64)])), (q1, .inl (cI, 41, .inl (fun _ => (0 : Int32)))), (q2, .inl (cI, 41, .inl (fun _ => (0 : Int32)))), (q3, .inl (cI, 41, .inl (fun _ => (0 : Int32)))), (q4, .inl (cL, 41, .inr (.inl (fun _ => (0 : Int64)))))]) rfl ?_
  refine g_putF (C := RX0) (T := TX0) (N := 6) (ci := 0) B hK hin_X0_init_RX0 0 rfl rfl 3 (by decide) tyX0 tyX0_ok nmX0 (List.mem_of_getElem? (i := 9) rfl) rfl rfl hname rfl (ty := .array .long) (v := .ref q4) (by decide +kernel) rfl rfl (Nat.le_of_ble_eq_true rfl) (w2 := [(ha, .inr (0, [.ref q1, .ref q2, .ref q3, .ref q4, .int (0 : Int32), .long (0 : Int64)])), (q1, .inl (cI, 41, .inl (fun _ => (0 : Int32)))), (q2, .inl (cI, 41, .inl (fun _ => (0 : Int32)))), (q3, .inl (cI, 41, .inl (fun _ => (0 : Int32)))), (q4, .inl (cL, 41, .inr (.inl (fun _ => (0 : Int64)))))]) rfl (fun _ h => h) dX0_init_33 ?_
  refine g_widen (k := 4) (n := 164) (by (try dsimp only); omega) (by (try dsimp only); omega) ?_
  exact g_vret_w B hr hlocks (q1, q2, q3, q4) (rfl) (trivial) [0, 1, 2, 3, 4] (by decide) (by (try dsimp only) <;> rfl) dX0_init_36

