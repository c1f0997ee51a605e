set_option maxHeartbeats 4000000 in
set_option maxRecDepth 100000 in
theorem i_X4_init (l : Launch) {D : va_G} {cI cL cZ cQ : ClassId} (ht : Nat)  : WM l yX4_init wsX4_init ({ frames := 1, cells := 1, slots := 30, locals := 20 } : Room) D (gTys cI cL cZ cQ) [.ref ht] [(ht, .inr (4, [.null, .int (0 : Int32), .int (0 : Int32), .long (0 : Int64)]))] (fun (t0 : Nat) => True) (fun (t0 : Nat) => none) (fun (t0 : Nat) => [(ht, .inr (4, [.ref t0, .int (0 : Int32), .int (0 : Int32), .long (0 : Int64)])), (t0, .inl (cI, 30, .inl (fun _ => (0 : Int32))))]) := by
  refine WM.ofG cX4_init 1 none (by decide +kernel) rfl (Nat.le_of_ble_eq_true rfl) ?_
  intro p e s m below meth c A hA B hr hlocks hname hK hN
  refine g_aload_n B dX4_init_0 0 rfl ?_
  refine g_objInit B (List.mem_of_getElem? (i := 1) rfl) (List.mem_of_getElem? (i := 2) rfl) (List.mem_of_getElem? (i := 3) rfl) (by decide) (by decide) dX4_init_1 ?_
  refine g_aload_n B dX4_init_4 0 rfl ?_
  refine g_bipush (v := (30 : Int32)) B dX4_init_5 (by decide) ?_
  refine g_newa B hK hA 0 rfl rfl (List.mem_of_getElem? (i := 4) rfl) rfl (30, .inl (fun _ => (0 : Int32))) (cellI_new 30) (by decide) (by decide) (by decide) (by decide) (by decide) dX4_init_7 (fun q1 => ?_)
  refine g_eqw (w2 := [(ht, .inr (4, [.null, .int (0 : Int32), .int (0 : Int32), .long (0 : Int64)])), (q1, .inl (cI, 30, .inl (fun _ => (0 : Int32))))]) rfl ?_
  refine g_putF (C := RX4) (T := TX4) (N := 4) (ci := 4) B hK hin_X4_init_RX4 0 rfl rfl 0 (by decide) tyX4 tyX4_ok nmX4 (List.mem_of_getElem? (i := 5) rfl) rfl rfl hname rfl (ty := .array .int) (v := .ref q1) (by decide +kernel) rfl rfl (Nat.le_of_ble_eq_true rfl) (w2 := [(ht, .inr (4, [.ref q1, .int (0 : Int32), .int (0 : Int32), .long (0 : Int64)])), (q1, .inl (cI, 30, .inl (fun _ => (0 : Int32))))]) rfl (fun _ h => h) dX4_init_9 ?_
  refine g_widen (k := 1) (n := 30) (by (try dsimp only); omega) (by (try dsimp only); omega) ?_
  exact g_vret_w B hr hlocks q1 (rfl) (trivial) [0, 1] (by decide) rfl dX4_init_12

