set_option maxHeartbeats 4000000 in
set_option maxRecDepth 100000 in
theorem i_X3_init (l : Launch) {D : va_G} {cI cL cZ cQ : ClassId} (hq : Nat)  : WM l yX3_init wsX3_init ({ frames := 1, cells := 3, slots := 18, locals := 20 } : Room) D (gTys cI cL cZ cQ) [.ref hq] [(hq, .inr (3, [.null, .null, .null, .int (0 : Int32)]))] (fun (q : Nat × Nat × Nat) => True) (fun (q : Nat × Nat × Nat) => none) (fun (q : Nat × Nat × Nat) => [(hq, .inr (3, [.ref q.1, .ref q.2.1, .ref q.2.2, .int (nI 0)])), (q.1, .inl (cI, 6, .inl (fun i => nI (ks_Q0.1 i)))), (q.2.1, .inl (cI, 6, .inl (fun i => nI (ks_Q0.2.1 i)))), (q.2.2, .inl (cI, 6, .inl (fun i => nI (ks_Q0.2.2 i))))]) := by
  refine WM.ofG cX3_init 1 none (by decide +kernel) rfl (Nat.le_of_ble_eq_true rfl) ?_
  intro p e s m below meth c A hA B hr hlocks hname hK hN
  refine g_aload_n B dX3_init_0 0 rfl ?_
  refine g_objInit B (List.mem_of_getElem? (i := 1) rfl) (List.mem_of_getElem? (i := 2) rfl) (List.mem_of_getElem? (i := 3) rfl) (by decide) (by decide) dX3_init_1 ?_
  refine g_aload_n B dX3_init_4 0 rfl ?_
  refine g_bipush (v := (6 : Int32)) B dX3_init_5 (by decide) ?_
  refine g_newa B hK hA 0 rfl rfl (List.mem_of_getElem? (i := 4) rfl) rfl (6, .inl (fun _ => (0 : Int32))) (cellI_new 6) (by decide) (by decide) (by decide) (by decide) (by decide) dX3_init_7 (fun q1 => ?_)
  refine g_eqw (w2 := [(hq, .inr (3, [.null, .null, .null, .int (0 : Int32)])), (q1, .inl (cI, 6, .inl (fun _ => (0 : Int32))))]) rfl ?_
  refine g_putF (C := RX3) (T := TX3) (N := 4) (ci := 3) B hK hin_X3_init_RX3 0 rfl rfl 0 (by decide) tyX3 tyX3_ok nmX3 (List.mem_of_getElem? (i := 5) rfl) rfl rfl hname rfl (ty := .array .int) (v := .ref q1) (by decide +kernel) rfl rfl (Nat.le_of_ble_eq_true rfl) (w2 := [(hq, .inr (3, [.ref q1, .null, .null, .int (0 : Int32)])), (q1, .inl (cI, 6, .inl (fun _ => (0 : Int32))))]) rfl (fun _ h => h) dX3_init_9 ?_
  refine g_aload_n B dX3_init_12 0 rfl ?_
  refine g_bipush (v := (6 : Int32)) B dX3_init_13 (by decide) ?_
  refine g_newa B hK hA 0 rfl rfl (List.mem_of_getElem? (i := 4) rfl) rfl (6, .inl (fun _ => (0 : Int32))) (cellI_new 6) (by decide) (by decide) (by decide) (by decide) (by decide) dX3_init_15 (fun q2 => ?_)
  refine g_eqw (w2 := [(hq, .inr (3, [.ref q1, .null, .null, .int (0 : Int32)])), (q1, .inl (cI, 6, .inl (fun _ => (0 : Int32)))), (q2, .inl (cI, 6, .inl (fun _ => (0 : Int32))))]) rfl ?_
  refine g_putF (C := RX3) (T := TX3) (N := 4) (ci := 3) B hK hin_X3_init_RX3 0 rfl rfl 1 (by decide) tyX3 tyX3_ok nmX3 (List.mem_of_getElem? (i := 6) rfl) rfl rfl hname rfl (ty := .array .int) (v := .ref q2) (by decide +kernel) rfl rfl (Nat.le_of_ble_eq_true rfl) (w2 := [(hq, .inr (3, [.ref q1, .ref q2, .null, .int (0 : Int32)])), (q1, .inl (cI, 6, .inl (fun _ => (0 : Int32)))), (q2, .inl (cI, 6, .inl (fun _ => (0 : Int32))))]) rfl (fun _ h => h) dX3_init_17 ?_
  refine g_aload_n B dX3_init_20 0 rfl ?_
  refine g_bipush (v := (6 : Int32)) B dX3_init_21 (by decide) ?_
  refine g_newa B hK hA 0 rfl rfl (List.mem_of_getElem? (i := 4) rfl) rfl (6, .inl (fun _ => (0 : Int32))) (cellI_new 6) (by decide) (by decide) (by decide) (by decide) (by decide) dX3_init_23 (fun q3 => ?_)
  refine g_eqw (w2 := [(hq, .inr (3, [.ref q1, .ref q2, .null, .int (0 : Int32)])), (q1, .inl (cI, 6, .inl (fun _ => (0 : Int32)))), (q2, .inl (cI, 6, .inl (fun _ => (0 : Int32)))), (q3, .inl (cI, 6, .inl (fun _ => (0 : Int32))))]) rfl ?_
  refine g_putF (C := RX3) (T := TX3) (N := 4) (ci := 3) B hK hin_X3_init_RX3 0 rfl rfl 2 (by decide) tyX3 tyX3_ok nmX3 (List.mem_of_getElem? (i := 7) rfl) rfl rfl hname rfl (ty := .array .int) (v := .ref q3) (by decide +kernel) rfl rfl (Nat.le_of_ble_eq_true rfl) (w2 := [(hq, .inr (3, [.ref q1, .ref q2, .ref q3, .int (0 : Int32)])), (q1, .inl (cI, 6, .inl (fun _ => (0 : Int32)))), (q2, .inl (cI, 6, .inl (fun _ => (0 : Int32)))), (q3, .inl (cI, 6, .inl (fun _ => (0 : Int32))))]) rfl (fun _ h => h) dX3_init_25 ?_
  refine g_widen (k := 3) (n := 18) (by (try dsimp only); omega) (by (try dsimp only); omega) ?_
  exact g_vret_w B hr hlocks (q1, q2, q3) (rfl) (trivial) [0, 1, 2, 3] (by decide) (by (try dsimp only) <;> rfl) dX3_init_28

