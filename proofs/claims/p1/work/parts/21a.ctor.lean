/-! the constructors of the class -/
theorem kd_J7_fill_53178 : yJ7_fill_53178.cls ≠ "java/lang/invoke/MethodHandle" ∧ yJ7_fill_53178.cls ≠ "java/lang/invoke/VarHandle" ∧ (parseMethodDescriptor yJ7_fill_53178.desc).map (fun d => d.parameters.length) = some 2 := by decide +kernel
theorem kd_X0_init : yX0_init.cls ≠ "java/lang/invoke/MethodHandle" ∧ yX0_init.cls ≠ "java/lang/invoke/VarHandle" ∧ (parseMethodDescriptor yX0_init.desc).map (fun d => d.parameters.length) = some 0 := by decide +kernel
theorem kd_X1_init : yX1_init.cls ≠ "java/lang/invoke/MethodHandle" ∧ yX1_init.cls ≠ "java/lang/invoke/VarHandle" ∧ (parseMethodDescriptor yX1_init.desc).map (fun d => d.parameters.length) = some 0 := by decide +kernel
theorem kd_X2_init : yX2_init.cls ≠ "java/lang/invoke/MethodHandle" ∧ yX2_init.cls ≠ "java/lang/invoke/VarHandle" ∧ (parseMethodDescriptor yX2_init.desc).map (fun d => d.parameters.length) = some 0 := by decide +kernel
theorem kd_X3_init : yX3_init.cls ≠ "java/lang/invoke/MethodHandle" ∧ yX3_init.cls ≠ "java/lang/invoke/VarHandle" ∧ (parseMethodDescriptor yX3_init.desc).map (fun d => d.parameters.length) = some 0 := by decide +kernel
theorem kd_X4_init : yX4_init.cls ≠ "java/lang/invoke/MethodHandle" ∧ yX4_init.cls ≠ "java/lang/invoke/VarHandle" ∧ (parseMethodDescriptor yX4_init.desc).map (fun d => d.parameters.length) = some 0 := by decide +kernel
theorem hin_X0_init_RX0 : ∀ z ∈ u_ws RX0 TX0 6, z ∈ wsX0_init := by decide +kernel
theorem hin_X1_init_RX1 : ∀ z ∈ u_ws RX1 TX1 4, z ∈ wsX1_init := by decide +kernel
theorem hin_X2_init_RX2 : ∀ z ∈ u_ws RX2 TX2 5, z ∈ wsX2_init := by decide +kernel
theorem hin_X3_init_RX3 : ∀ z ∈ u_ws RX3 TX3 4, z ∈ wsX3_init := by decide +kernel
theorem hin_X4_init_RX4 : ∀ z ∈ u_ws RX4 TX4 4, z ∈ wsX4_init := by decide +kernel
theorem hin_X5_init_RX0 : ∀ z ∈ u_ws RX0 TX0 6, z ∈ wsX5_init := by decide +kernel
theorem hin_X5_init_RX1 : ∀ z ∈ u_ws RX1 TX1 4, z ∈ wsX5_init := by decide +kernel
theorem hin_X5_init_RX2 : ∀ z ∈ u_ws RX2 TX2 5, z ∈ wsX5_init := by decide +kernel
theorem hin_X5_init_RX3 : ∀ z ∈ u_ws RX3 TX3 4, z ∈ wsX5_init := by decide +kernel
theorem hin_X5_init_RX4 : ∀ z ∈ u_ws RX4 TX4 4, z ∈ wsX5_init := by decide +kernel
theorem hin_X5_init_RX5 : ∀ z ∈ u_ws RX5 TX5 5, z ∈ wsX5_init := by decide +kernel
set_option maxHeartbeats 4000000 in
set_option maxRecDepth 100000 in
theorem k_fill_24 (l : Launch) {D : va_G} {cI cL cZ : ClassId} (p9 : Nat)  : WM l yJ7_fill_53178 wsJ7_fill_53178 ({ frames := 0, cells := 0, slots := 0, locals := 0 } : Room) D (gTys cI cL cZ) [.ref p9, .int (-1 : Int32)] [(p9, .inl (cI, 24, .inl (fun _ => (0 : Int32))))] (fun (_ : Unit) => True) (fun (_ : Unit) => none) (fun (_ : Unit) => [(p9, .inl (cI, 24, .inl (fun _ => (-1 : Int32))))]) := by
  refine WM.ofG cJ7_fill_53178 4 none (by decide +kernel) rfl (Nat.le_of_ble_eq_true rfl) ?_
  intro p e s m below meth c A hA B hr hlocks hname hK hN
  refine g_iconst (v := (0 : Int32)) B dJ7_fill_53178_0 (by decide) ?_
  refine g_istore_n (lv' := [(0, .ref p9), (1, .int (-1 : Int32)), (2, .int (0 : Int32))]) B dJ7_fill_53178_1 rfl (by decide) [1, 2, 0] rfl ?_
  refine g_aload_n B dJ7_fill_53178_2 0 rfl ?_
  refine g_alen (v := (24 : Int32)) B hK 0 0 rfl rfl rfl dJ7_fill_53178_3 ?_
  refine g_istore_n (lv' := [(0, .ref p9), (1, .int (-1 : Int32)), (2, .int (0 : Int32)), (3, .int (24 : Int32))]) B dJ7_fill_53178_4 rfl (by decide) [1, 2, 3, 0] rfl ?_
  refine g_iload_n B dJ7_fill_53178_5 2 rfl ?_
  refine g_iload_n B dJ7_fill_53178_6 3 rfl ?_
  refine g_icmp_ge (tgt := 20) B dJ7_fill_53178_7 (by decide) (fun c1 => absurd c1 (by decide)) (fun _ => ?_)
  refine g_aload_n B dJ7_fill_53178_10 0 rfl ?_
  refine g_iload_n B dJ7_fill_53178_11 2 rfl ?_
  refine g_iload_n B dJ7_fill_53178_12 1 rfl ?_
  refine g_iast B hK 0 0 rfl rfl 0 rfl (by omega) (by omega) (f2 := (upd (fun _ => (0 : Int32)) 0 (-1 : Int32))) (rfl) (w2 := [(p9, .inl (cI, 24, .inl (upd (fun _ => (0 : Int32)) 0 (-1 : Int32))))]) rfl (fun _ h => h) dJ7_fill_53178_13 ?_
  refine g_iinc (lv' := [(0, .ref p9), (1, .int (-1 : Int32)), (2, .int (1 : Int32)), (3, .int (24 : Int32))]) B dJ7_fill_53178_14 2 rfl (by decide) (by decide) [1, 2, 0, 3] rfl ?_
  refine g_goto (tgt := 5) B dJ7_fill_53178_17 (by decide) ?_
  refine g_iload_n B dJ7_fill_53178_5 2 rfl ?_
  refine g_iload_n B dJ7_fill_53178_6 3 rfl ?_
  refine g_icmp_ge (tgt := 20) B dJ7_fill_53178_7 (by decide) (fun c2 => absurd c2 (by decide)) (fun _ => ?_)
  refine g_aload_n B dJ7_fill_53178_10 0 rfl ?_
  refine g_iload_n B dJ7_fill_53178_11 2 rfl ?_
  refine g_iload_n B dJ7_fill_53178_12 1 rfl ?_
  refine g_iast B hK 0 0 rfl rfl 1 rfl (by omega) (by omega) (f2 := (upd (upd (fun _ => (0 : Int32)) 0 (-1 : Int32)) 1 (-1 : Int32))) (rfl) (w2 := [(p9, .inl (cI, 24, .inl (upd (upd (fun _ => (0 : Int32)) 0 (-1 : Int32)) 1 (-1 : Int32))))]) rfl (fun _ h => h) dJ7_fill_53178_13 ?_
  refine g_iinc (lv' := [(0, .ref p9), (1, .int (-1 : Int32)), (2, .int (2 : Int32)), (3, .int (24 : Int32))]) B dJ7_fill_53178_14 2 rfl (by decide) (by decide) [1, 2, 0, 3] rfl ?_
  refine g_goto (tgt := 5) B dJ7_fill_53178_17 (by decide) ?_
  refine g_iload_n B dJ7_fill_53178_5 2 rfl ?_
  refine g_iload_n B dJ7_fill_53178_6 3 rfl ?_
  refine g_icmp_ge (tgt := 20) B dJ7_fill_53178_7 (by decide) (fun c3 => absurd c3 (by decide)) (fun _ => ?_)
  refine g_aload_n B dJ7_fill_53178_10 0 rfl ?_
  refine g_iload_n B dJ7_fill_53178_11 2 rfl ?_
  refine g_iload_n B dJ7_fill_53178_12 1 rfl ?_
  refine g_iast B hK 0 0 rfl rfl 2 rfl (by omega) (by omega) (f2 := (upd (upd (upd (fun _ => (0 : Int32)) 0 (-1 : Int32)) 1 (-1 : Int32)) 2 (-1 : Int32))) (rfl) (w2 := [(p9, .inl (cI, 24, .inl (upd (upd (upd (fun _ => (0 : Int32)) 0 (-1 : Int32)) 1 (-1 : Int32)) 2 (-1 : Int32))))]) rfl (fun _ h => h) dJ7_fill_53178_13 ?_
  refine g_iinc (lv' := [(0, .ref p9), (1, .int (-1 : Int32)), (2, .int (3 : Int32)), (3, .int (24 : Int32))]) B dJ7_fill_53178_14 2 rfl (by decide) (by decide) [1, 2, 0, 3] rfl ?_
  refine g_goto (tgt := 5) B dJ7_fill_53178_17 (by decide) ?_
  refine g_iload_n B dJ7_fill_53178_5 2 rfl ?_
  refine g_iload_n B dJ7_fill_53178_6 3 rfl ?_
  refine g_icmp_ge (tgt := 20) B dJ7_fill_53178_7 (by decide) (fun c4 => absurd c4 (by decide)) (fun _ => ?_)
  refine g_aload_n B dJ7_fill_53178_10 0 rfl ?_
  refine g_iload_n B dJ7_fill_53178_11 2 rfl ?_
  refine g_iload_n B dJ7_fill_53178_12 1 rfl ?_
  refine g_iast B hK 0 0 rfl rfl 3 rfl (by omega) (by omega) (f2 := (upd (upd (upd (upd (fun _ => (0 : Int32)) 0 (-1 : Int32)) 1 (-1 : Int32)) 2 (-1 : Int32)) 3 (-1 : Int32))) (rfl) (w2 := [(p9, .inl (cI, 24, .inl (upd (upd (upd (upd (fun _ => (0 : Int32)) 0 (-1 : Int32)) 1 (-1 : Int32)) 2 (-1 : Int32)) 3 (-1 : Int32))))]) rfl (fun _ h => h) dJ7_fill_53178_13 ?_
  refine g_iinc (lv' := [(0, .ref p9), (1, .int (-1 : Int32)), (2, .int (4 : Int32)), (3, .int (24 : Int32))]) B dJ7_fill_53178_14 2 rfl (by decide) (by decide) [1, 2, 0, 3] rfl ?_
  refine g_goto (tgt := 5) B dJ7_fill_53178_17 (by decide) ?_
  refine g_iload_n B dJ7_fill_53178_5 2 rfl ?_
  refine g_iload_n B dJ7_fill_53178_6 3 rfl ?_
  refine g_icmp_ge (tgt := 20) B dJ7_fill_53178_7 (by decide) (fun c5 => absurd c5 (by decide)) (fun _ => ?_)
  refine g_aload_n B dJ7_fill_53178_10 0 rfl ?_
  refine g_iload_n B dJ7_fill_53178_11 2 rfl ?_
  refine g_iload_n B dJ7_fill_53178_12 1 rfl ?_
  refine g_iast B hK 0 0 rfl rfl 4 rfl (by omega) (by omega) (f2 := (upd (upd (upd (upd (upd (fun _ => (0 : Int32)) 0 (-1 : Int32)) 1 (-1 : Int32)) 2 (-1 : Int32)) 3 (-1 : Int32)) 4 (-1 : Int32))) (rfl) (w2 := [(p9, .inl (cI, 24, .inl (upd (upd (upd (upd (upd (fun _ => (0 : Int32)) 0 (-1 : Int32)) 1 (-1 : Int32)) 2 (-1 : Int32)) 3 (-1 : Int32)) 4 (-1 : Int32))))]) rfl (fun _ h => h) dJ7_fill_53178_13 ?_
  refine g_iinc (lv' := [(0, .ref p9), (1, .int (-1 : Int32)), (2, .int (5 : Int32)), (3, .int (24 : Int32))]) B dJ7_fill_53178_14 2 rfl (by decide) (by decide) [1, 2, 0, 3] rfl ?_
  refine g_goto (tgt := 5) B dJ7_fill_53178_17 (by decide) ?_
  refine g_iload_n B dJ7_fill_53178_5 2 rfl ?_
  refine g_iload_n B dJ7_fill_53178_6 3 rfl ?_
  refine g_icmp_ge (tgt := 20) B dJ7_fill_53178_7 (by decide) (fun c6 => absurd c6 (by decide)) (fun _ => ?_)
  refine g_aload_n B dJ7_fill_53178_10 0 rfl ?_
  refine g_iload_n B dJ7_fill_53178_11 2 rfl ?_
  refine g_iload_n B dJ7_fill_53178_12 1 rfl ?_
  refine g_iast B hK 0 0 rfl rfl 5 rfl (by omega) (by omega) (f2 := (upd (upd (upd (upd (upd (upd (fun _ => (0 : Int32)) 0 (-1 : Int32)) 1 (-1 : Int32)) 2 (-1 : Int32)) 3 (-1 : Int32)) 4 (-1 : Int32)) 5 (-1 : Int32))) (rfl) (w2 := [(p9, .inl (cI, 24, .inl (upd (upd (upd (upd (upd (upd (fun _ => (0 : Int32)) 0 (-1 : Int32)) 1 (-1 : Int32)) 2 (-1 : Int32)) 3 (-1 : Int32)) 4 (-1 : Int32)) 5 (-1 : Int32))))]) rfl (fun _ h => h) dJ7_fill_53178_13 ?_
  refine g_iinc (lv' := [(0, .ref p9), (1, .int (-1 : Int32)), (2, .int (6 : Int32)), (3, .int (24 : Int32))]) B dJ7_fill_53178_14 2 rfl (by decide) (by decide) [1, 2, 0, 3] rfl ?_
  refine g_goto (tgt := 5) B dJ7_fill_53178_17 (by decide) ?_
  refine g_iload_n B dJ7_fill_53178_5 2 rfl ?_
  refine g_iload_n B dJ7_fill_53178_6 3 rfl ?_
  refine g_icmp_ge (tgt := 20) B dJ7_fill_53178_7 (by decide) (fun c7 => absurd c7 (by decide)) (fun _ => ?_)
  refine g_aload_n B dJ7_fill_53178_10 0 rfl ?_
  refine g_iload_n B dJ7_fill_53178_11 2 rfl ?_
  refine g_iload_n B dJ7_fill_53178_12 1 rfl ?_
  refine g_iast B hK 0 0 rfl rfl 6 rfl (by omega) (by omega) (f2 := (upd (upd (upd (upd (upd (upd (upd (fun _ => (0 : Int32)) 0 (-1 : Int32)) 1 (-1 : Int32)) 2 (-1 : Int32)) 3 (-1 : Int32)) 4 (-1 : Int32)) 5 (-1 : Int32)) 6 (-1 : Int32))) (rfl) (w2 := [(p9, .inl (cI, 24, .inl (upd (upd (upd (upd (upd (upd (upd (fun _ => (0 : Int32)) 0 (-1 : Int32)) 1 (-1 : Int32)) 2 (-1 : Int32)) 3 (-1 : Int32)) 4 (-1 : Int32)) 5 (-1 : Int32)) 6 (-1 : Int32))))]) rfl (fun _ h => h) dJ7_fill_53178_13 ?_
  refine g_iinc (lv' := [(0, .ref p9), (1, .int (-1 : Int32)), (2, .int (7 : Int32)), (3, .int (24 : Int32))]) B dJ7_fill_53178_14 2 rfl (by decide) (by decide) [1, 2, 0, 3] rfl ?_
  refine g_goto (tgt := 5) B dJ7_fill_53178_17 (by decide) ?_
  refine g_iload_n B dJ7_fill_53178_5 2 rfl ?_
  refine g_iload_n B dJ7_fill_53178_6 3 rfl ?_
  refine g_icmp_ge (tgt := 20) B dJ7_fill_53178_7 (by decide) (fun c8 => absurd c8 (by decide)) (fun _ => ?_)
  refine g_aload_n B dJ7_fill_53178_10 0 rfl ?_
  refine g_iload_n B dJ7_fill_53178_11 2 rfl ?_
  refine g_iload_n B dJ7_fill_53178_12 1 rfl ?_
  refine g_iast B hK 0 0 rfl rfl 7 rfl (by omega) (by omega) (f2 := (upd (upd (upd (upd (upd (upd (upd (upd (fun _ => (0 : Int32)) 0 (-1 : Int32)) 1 (-1 : Int32)) 2 (-1 : Int32)) 3 (-1 : Int32)) 4 (-1 : Int32)) 5 (-1 : Int32)) 6 (-1 : Int32)) 7 (-1 : Int32))) (rfl) (w2 := [(p9, .inl (cI, 24, .inl (upd (upd (upd (upd (upd (upd (upd (upd (fun _ => (0 : Int32)) 0 (-1 : Int32)) 1 (-1 : Int32)) 2 (-1 : Int32)) 3 (-1 : Int32)) 4 (-1 : Int32)) 5 (-1 : Int32)) 6 (-1 : Int32)) 7 (-1 : Int32))))]) rfl (fun _ h => h) dJ7_fill_53178_13 ?_
  refine g_iinc (lv' := [(0, .ref p9), (1, .int (-1 : Int32)), (2, .int (8 : Int32)), (3, .int (24 : Int32))]) B dJ7_fill_53178_14 2 rfl (by decide) (by decide) [1, 2, 0, 3] rfl ?_
  refine g_goto (tgt := 5) B dJ7_fill_53178_17 (by decide) ?_
  refine g_iload_n B dJ7_fill_53178_5 2 rfl ?_
  refine g_iload_n B dJ7_fill_53178_6 3 rfl ?_
  refine g_icmp_ge (tgt := 20) B dJ7_fill_53178_7 (by decide) (fun c9 => absurd c9 (by decide)) (fun _ => ?_)
  refine g_aload_n B dJ7_fill_53178_10 0 rfl ?_
  refine g_iload_n B dJ7_fill_53178_11 2 rfl ?_
  refine g_iload_n B dJ7_fill_53178_12 1 rfl ?_
  refine g_iast B hK 0 0 rfl rfl 8 rfl (by omega) (by omega) (f2 := (upd (upd (upd (upd (upd (upd (upd (upd (upd (fun _ => (0 : Int32)) 0 (-1 : Int32)) 1 (-1 : Int32)) 2 (-1 : Int32)) 3 (-1 : Int32)) 4 (-1 : Int32)) 5 (-1 : Int32)) 6 (-1 : Int32)) 7 (-1 : Int32)) 8 (-1 : Int32))) (rfl) (w2 := [(p9, .inl (cI, 24, .inl (upd (upd (upd (upd (upd (upd (upd (upd (upd (fun _ => (0 : Int32)) 0 (-1 : Int32)) 1 (-1 : Int32)) 2 (-1 : Int32)) 3 (-1 : Int32)) 4 (-1 : Int32)) 5 (-1 : Int32)) 6 (-1 : Int32)) 7 (-1 : Int32)) 8 (-1 : Int32))))]) rfl (fun _ h => h) dJ7_fill_53178_13 ?_
  refine g_iinc (lv' := [(0, .ref p9), (1, .int (-1 : Int32)), (2, .int (9 : Int32)), (3, .int (24 : Int32))]) B dJ7_fill_53178_14 2 rfl (by decide) (by decide) [1, 2, 0, 3] rfl ?_
  refine g_goto (tgt := 5) B dJ7_fill_53178_17 (by decide) ?_
  refine g_iload_n B dJ7_fill_53178_5 2 rfl ?_
  refine g_iload_n B dJ7_fill_53178_6 3 rfl ?_
  refine g_icmp_ge (tgt := 20) B dJ7_fill_53178_7 (by decide) (fun c10 => absurd c10 (by decide)) (fun _ => ?_)
  refine g_aload_n B dJ7_fill_53178_10 0 rfl ?_
  refine g_iload_n B dJ7_fill_53178_11 2 rfl ?_
  refine g_iload_n B dJ7_fill_53178_12 1 rfl ?_
  refine g_iast B hK 0 0 rfl rfl 9 rfl (by omega) (by omega) (f2 := (upd (upd (upd (upd (upd (upd (upd (upd (upd (upd (fun _ => (0 : Int32)) 0 (-1 : Int32)) 1 (-1 : Int32)) 2 (-1 : Int32)) 3 (-1 : Int32)) 4 (-1 : Int32)) 5 (-1 : Int32)) 6 (-1 : Int32)) 7 (-1 : Int32)) 8 (-1 : Int32)) 9 (-1 : Int32))) (rfl) (w2 := [(p9, .inl (cI, 24, .inl (upd (upd (upd (upd (upd (upd (upd (upd (upd (upd (fun _ => (0 : Int32)) 0 (-1 : Int32)) 1 (-1 : Int32)) 2 (-1 : Int32)) 3 (-1 : Int32)) 4 (-1 : Int32)) 5 (-1 : Int32)) 6 (-1 : Int32)) 7 (-1 : Int32)) 8 (-1 : Int32)) 9 (-1 : Int32))))]) rfl (fun _ h => h) dJ7_fill_53178_13 ?_
  refine g_iinc (lv' := [(0, .ref p9), (1, .int (-1 : Int32)), (2, .int (10 : Int32)), (3, .int (24 : Int32))]) B dJ7_fill_53178_14 2 rfl (by decide) (by decide) [1, 2, 0, 3] rfl ?_
  refine g_goto (tgt := 5) B dJ7_fill_53178_17 (by decide) ?_
  refine g_iload_n B dJ7_fill_53178_5 2 rfl ?_
  refine g_iload_n B dJ7_fill_53178_6 3 rfl ?_
  refine g_icmp_ge (tgt := 20) B dJ7_fill_53178_7 (by decide) (fun c11 => absurd c11 (by decide)) (fun _ => ?_)
  refine g_aload_n B dJ7_fill_53178_10 0 rfl ?_
  refine g_iload_n B dJ7_fill_53178_11 2 rfl ?_
  refine g_iload_n B dJ7_fill_53178_12 1 rfl ?_
  refine g_iast B hK 0 0 rfl rfl 10 rfl (by omega) (by omega) (f2 := (upd (upd (upd (upd (upd (upd (upd (upd (upd (upd (upd (fun _ => (0 : Int32)) 0 (-1 : Int32)) 1 (-1 : Int32)) 2 (-1 : Int32)) 3 (-1 : Int32)) 4 (-1 : Int32)) 5 (-1 : Int32)) 6 (-1 : Int32)) 7 (-1 : Int32)) 8 (-1 : Int32)) 9 (-1 : Int32)) 10 (-1 : Int32))) (rfl) (w2 := [(p9, .inl (cI, 24, .inl (upd (upd (upd (upd (upd (upd (upd (upd (upd (upd (upd (fun _ => (0 : Int32)) 0 (-1 : Int32)) 1 (-1 : Int32)) 2 (-1 : Int32)) 3 (-1 : Int32)) 4 (-1 : Int32)) 5 (-1 : Int32)) 6 (-1 : Int32)) 7 (-1 : Int32)) 8 (-1 : Int32)) 9 (-1 : Int32)) 10 (-1 : Int32))))]) rfl (fun _ h => h) dJ7_fill_53178_13 ?_
  refine g_iinc (lv' := [(0, .ref p9), (1, .int (-1 : Int32)), (2, .int (11 : Int32)), (3, .int (24 : Int32))]) B dJ7_fill_53178_14 2 rfl (by decide) (by decide) [1, 2, 0, 3] rfl ?_
  refine g_goto (tgt := 5) B dJ7_fill_53178_17 (by decide) ?_
  refine g_iload_n B dJ7_fill_53178_5 2 rfl ?_
  refine g_iload_n B dJ7_fill_53178_6 3 rfl ?_
  refine g_icmp_ge (tgt := 20) B dJ7_fill_53178_7 (by decide) (fun c12 => absurd c12 (by decide)) (fun _ => ?_)
  refine g_aload_n B dJ7_fill_53178_10 0 rfl ?_
  refine g_iload_n B dJ7_fill_53178_11 2 rfl ?_
  refine g_iload_n B dJ7_fill_53178_12 1 rfl ?_
  refine g_iast B hK 0 0 rfl rfl 11 rfl (by omega) (by omega) (f2 := (upd (upd (upd (upd (upd (upd (upd (upd (upd (upd (upd (upd (fun _ => (0 : Int32)) 0 (-1 : Int32)) 1 (-1 : Int32)) 2 (-1 : Int32)) 3 (-1 : Int32)) 4 (-1 : Int32)) 5 (-1 : Int32)) 6 (-1 : Int32)) 7 (-1 : Int32)) 8 (-1 : Int32)) 9 (-1 : Int32)) 10 (-1 : Int32)) 11 (-1 : Int32))) (rfl) (w2 := [(p9, .inl (cI, 24, .inl (upd (upd (upd (upd (upd (upd (upd (upd (upd (upd (upd (upd (fun _ => (0 : Int32)) 0 (-1 : Int32)) 1 (-1 : Int32)) 2 (-1 : Int32)) 3 (-1 : Int32)) 4 (-1 : Int32)) 5 (-1 : Int32)) 6 (-1 : Int32)) 7 (-1 : Int32)) 8 (-1 : Int32)) 9 (-1 : Int32)) 10 (-1 : Int32)) 11 (-1 : Int32))))]) rfl (fun _ h => h) dJ7_fill_53178_13 ?_
  refine g_iinc (lv' := [(0, .ref p9), (1, .int (-1 : Int32)), (2, .int (12 : Int32)), (3, .int (24 : Int32))]) B dJ7_fill_53178_14 2 rfl (by decide) (by decide) [1, 2, 0, 3] rfl ?_
  refine g_goto (tgt := 5) B dJ7_fill_53178_17 (by decide) ?_
  refine g_iload_n B dJ7_fill_53178_5 2 rfl ?_
  refine g_iload_n B dJ7_fill_53178_6 3 rfl ?_
  refine g_icmp_ge (tgt := 20) B dJ7_fill_53178_7 (by decide) (fun c13 => absurd c13 (by decide)) (fun _ => ?_)
  refine g_aload_n B dJ7_fill_53178_10 0 rfl ?_
  refine g_iload_n B dJ7_fill_53178_11 2 rfl ?_
  refine g_iload_n B dJ7_fill_53178_12 1 rfl ?_
  refine g_iast B hK 0 0 rfl rfl 12 rfl (by omega) (by omega) (f2 := (upd (upd (upd (upd (upd (upd (upd (upd (upd (upd (upd (upd (upd (fun _ => (0 : Int32)) 0 (-1 : Int32)) 1 (-1 : Int32)) 2 (-1 : Int32)) 3 (-1 : Int32)) 4 (-1 : Int32)) 5 (-1 : Int32)) 6 (-1 : Int32)) 7 (-1 : Int32)) 8 (-1 : Int32)) 9 (-1 : Int32)) 10 (-1 : Int32)) 11 (-1 : Int32)) 12 (-1 : Int32))) (rfl) (w2 := [(p9, .inl (cI, 24, .inl (upd (upd (upd (upd (upd (upd (upd (upd (upd (upd (upd (upd (upd (fun _ => (0 : Int32)) 0 (-1 : Int32)) 1 (-1 : Int32)) 2 (-1 : Int32)) 3 (-1 : Int32)) 4 (-1 : Int32)) 5 (-1 : Int32)) 6 (-1 : Int32)) 7 (-1 : Int32)) 8 (-1 : Int32)) 9 (-1 : Int32)) 10 (-1 : Int32)) 11 (-1 : Int32)) 12 (-1 : Int32))))]) rfl (fun _ h => h) dJ7_fill_53178_13 ?_
  refine g_iinc (lv' := [(0, .ref p9), (1, .int (-1 : Int32)), (2, .int (13 : Int32)), (3, .int (24 : Int32))]) B dJ7_fill_53178_14 2 rfl (by decide) (by decide) [1, 2, 0, 3] rfl ?_
  refine g_goto (tgt := 5) B dJ7_fill_53178_17 (by decide) ?_
  refine g_iload_n B dJ7_fill_53178_5 2 rfl ?_
  refine g_iload_n B dJ7_fill_53178_6 3 rfl ?_
  refine g_icmp_ge (tgt := 20) B dJ7_fill_53178_7 (by decide) (fun c14 => absurd c14 (by decide)) (fun _ => ?_)
  refine g_aload_n B dJ7_fill_53178_10 0 rfl ?_
  refine g_iload_n B dJ7_fill_53178_11 2 rfl ?_
  refine g_iload_n B dJ7_fill_53178_12 1 rfl ?_
  refine g_iast B hK 0 0 rfl rfl 13 rfl (by omega) (by omega) (f2 := (upd (upd (upd (upd (upd (upd (upd (upd (upd (upd (upd (upd (upd (upd (fun _ => (0 : Int32)) 0 (-1 : Int32)) 1 (-1 : Int32)) 2 (-1 : Int32)) 3 (-1 : Int32)) 4 (-1 : Int32)) 5 (-1 : Int32)) 6 (-1 : Int32)) 7 (-1 : Int32)) 8 (-1 : Int32)) 9 (-1 : Int32)) 10 (-1 : Int32)) 11 (-1 : Int32)) 12 (-1 : Int32)) 13 (-1 : Int32))) (rfl) (w2 := [(p9, .inl (cI, 24, .inl (upd (upd (upd (upd (upd (upd (upd (upd (upd (upd (upd (upd (upd (upd (fun _ => (0 : Int32)) 0 (-1 : Int32)) 1 (-1 : Int32)) 2 (-1 : Int32)) 3 (-1 : Int32)) 4 (-1 : Int32)) 5 (-1 : Int32)) 6 (-1 : Int32)) 7 (-1 : Int32)) 8 (-1 : Int32)) 9 (-1 : Int32)) 10 (-1 : Int32)) 11 (-1 : Int32)) 12 (-1 : Int32)) 13 (-1 : Int32))))]) rfl (fun _ h => h) dJ7_fill_53178_13 ?_
  refine g_iinc (lv' := [(0, .ref p9), (1, .int (-1 : Int32)), (2, .int (14 : Int32)), (3, .int (24 : Int32))]) B dJ7_fill_53178_14 2 rfl (by decide) (by decide) [1, 2, 0, 3] rfl ?_
  refine g_goto (tgt := 5) B dJ7_fill_53178_17 (by decide) ?_
  refine g_iload_n B dJ7_fill_53178_5 2 rfl ?_
  refine g_iload_n B dJ7_fill_53178_6 3 rfl ?_
  refine g_icmp_ge (tgt := 20) B dJ7_fill_53178_7 (by decide) (fun c15 => absurd c15 (by decide)) (fun _ => ?_)
  refine g_aload_n B dJ7_fill_53178_10 0 rfl ?_
  refine g_iload_n B dJ7_fill_53178_11 2 rfl ?_
  refine g_iload_n B dJ7_fill_53178_12 1 rfl ?_
  refine g_iast B hK 0 0 rfl rfl 14 rfl (by omega) (by omega) (f2 := (upd (upd (upd (upd (upd (upd (upd (upd (upd (upd (upd (upd (upd (upd (upd (fun _ => (0 : Int32)) 0 (-1 : Int32)) 1 (-1 : Int32)) 2 (-1 : Int32)) 3 (-1 : Int32)) 4 (-1 : Int32)) 5 (-1 : Int32)) 6 (-1 : Int32)) 7 (-1 : Int32)) 8 (-1 : Int32)) 9 (-1 : Int32)) 10 (-1 : Int32)) 11 (-1 : Int32)) 12 (-1 : Int32)) 13 (-1 : Int32)) 14 (-1 : Int32))) (rfl) (w2 := [(p9, .inl (cI, 24, .inl (upd (upd (upd (upd (upd (upd (upd (upd (upd (upd (upd (upd (upd (upd (upd (fun _ => (0 : Int32)) 0 (-1 : Int32)) 1 (-1 : Int32)) 2 (-1 : Int32)) 3 (-1 : Int32)) 4 (-1 : Int32)) 5 (-1 : Int32)) 6 (-1 : Int32)) 7 (-1 : Int32)) 8 (-1 : Int32)) 9 (-1 : Int32)) 10 (-1 : Int32)) 11 (-1 : Int32)) 12 (-1 : Int32)) 13 (-1 : Int32)) 14 (-1 : Int32))))]) rfl (fun _ h => h) dJ7_fill_53178_13 ?_
  refine g_iinc (lv' := [(0, .ref p9), (1, .int (-1 : Int32)), (2, .int (15 : Int32)), (3, .int (24 : Int32))]) B dJ7_fill_53178_14 2 rfl (by decide) (by decide) [1, 2, 0, 3] rfl ?_
  refine g_goto (tgt := 5) B dJ7_fill_53178_17 (by decide) ?_
  refine g_iload_n B dJ7_fill_53178_5 2 rfl ?_
  refine g_iload_n B dJ7_fill_53178_6 3 rfl ?_
  refine g_icmp_ge (tgt := 20) B dJ7_fill_53178_7 (by decide) (fun c16 => absurd c16 (by decide)) (fun _ => ?_)
  refine g_aload_n B dJ7_fill_53178_10 0 rfl ?_
  refine g_iload_n B dJ7_fill_53178_11 2 rfl ?_
  refine g_iload_n B dJ7_fill_53178_12 1 rfl ?_
  refine g_iast B hK 0 0 rfl rfl 15 rfl (by omega) (by omega) (f2 := (upd (upd (upd (upd (upd (upd (upd (upd (upd (upd (upd (upd (upd (upd (upd (upd (fun _ => (0 : Int32)) 0 (-1 : Int32)) 1 (-1 : Int32)) 2 (-1 : Int32)) 3 (-1 : Int32)) 4 (-1 : Int32)) 5 (-1 : Int32)) 6 (-1 : Int32)) 7 (-1 : Int32)) 8 (-1 : Int32)) 9 (-1 : Int32)) 10 (-1 : Int32)) 11 (-1 : Int32)) 12 (-1 : Int32)) 13 (-1 : Int32)) 14 (-1 : Int32)) 15 (-1 : Int32))) (rfl) (w2 := [(p9, .inl (cI, 24, .inl (upd (upd (upd (upd (upd (upd (upd (upd (upd (upd (upd (upd (upd (upd (upd (upd (fun _ => (0 : Int32)) 0 (-1 : Int32)) 1 (-1 : Int32)) 2 (-1 : Int32)) 3 (-1 : Int32)) 4 (-1 : Int32)) 5 (-1 : Int32)) 6 (-1 : Int32)) 7 (-1 : Int32)) 8 (-1 : Int32)) 9 (-1 : Int32)) 10 (-1 : Int32)) 11 (-1 : Int32)) 12 (-1 : Int32)) 13 (-1 : Int32)) 14 (-1 : Int32)) 15 (-1 : Int32))))]) rfl (fun _ h => h) dJ7_fill_53178_13 ?_
  refine g_iinc (lv' := [(0, .ref p9), (1, .int (-1 : Int32)), (2, .int (16 : Int32)), (3, .int (24 : Int32))]) B dJ7_fill_53178_14 2 rfl (by decide) (by decide) [1, 2, 0, 3] rfl ?_
  refine g_goto (tgt := 5) B dJ7_fill_53178_17 (by decide) ?_
  refine g_iload_n B dJ7_fill_53178_5 2 rfl ?_
  refine g_iload_n B dJ7_fill_53178_6 3 rfl ?_
  refine g_icmp_ge (tgt := 20) B dJ7_fill_53178_7 (by decide) (fun c17 => absurd c17 (by decide)) (fun _ => ?_)
  refine g_aload_n B dJ7_fill_53178_10 0 rfl ?_
  refine g_iload_n B dJ7_fill_53178_11 2 rfl ?_
  refine g_iload_n B dJ7_fill_53178_12 1 rfl ?_
  refine g_iast B hK 0 0 rfl rfl 16 rfl (by omega) (by omega) (f2 := (upd (upd (upd (upd (upd (upd (upd (upd (upd (upd (upd (upd (upd (upd (upd (upd (upd (fun _ => (0 : Int32)) 0 (-1 : Int32)) 1 (-1 : Int32)) 2 (-1 : Int32)) 3 (-1 : Int32)) 4 (-1 : Int32)) 5 (-1 : Int32)) 6 (-1 : Int32)) 7 (-1 : Int32)) 8 (-1 : Int32)) 9 (-1 : Int32)) 10 (-1 : Int32)) 11 (-1 : Int32)) 12 (-1 : Int32)) 13 (-1 : Int32)) 14 (-1 : Int32)) 15 (-1 : Int32)) 16 (-1 : Int32))) (rfl) (w2 := [(p9, .inl (cI, 24, .inl (upd (upd (upd (upd (upd (upd (upd (upd (upd (upd (upd (upd (upd (upd (upd (upd (upd (fun _ => (0 : Int32)) 0 (-1 : Int32)) 1 (-1 : Int32)) 2 (-1 : Int32)) 3 (-1 : Int32)) 4 (-1 : Int32)) 5 (-1 : Int32)) 6 (-1 : Int32)) 7 (-1 : Int32)) 8 (-1 : Int32)) 9 (-1 : Int32)) 10 (-1 : Int32)) 11 (-1 : Int32)) 12 (-1 : Int32)) 13 (-1 : Int32)) 14 (-1 : Int32)) 15 (-1 : Int32)) 16 (-1 : Int32))))]) rfl (fun _ h => h) dJ7_fill_53178_13 ?_
  refine g_iinc (lv' := [(0, .ref p9), (1, .int (-1 : Int32)), (2, .int (17 : Int32)), (3, .int (24 : Int32))]) B dJ7_fill_53178_14 2 rfl (by decide) (by decide) [1, 2, 0, 3] rfl ?_
  refine g_goto (tgt := 5) B dJ7_fill_53178_17 (by decide) ?_
  refine g_iload_n B dJ7_fill_53178_5 2 rfl ?_
  refine g_iload_n B dJ7_fill_53178_6 3 rfl ?_
  refine g_icmp_ge (tgt := 20) B dJ7_fill_53178_7 (by decide) (fun c18 => absurd c18 (by decide)) (fun _ => ?_)
  refine g_aload_n B dJ7_fill_53178_10 0 rfl ?_
  refine g_iload_n B dJ7_fill_53178_11 2 rfl ?_
  refine g_iload_n B dJ7_fill_53178_12 1 rfl ?_
  refine g_iast B hK 0 0 rfl rfl 17 rfl (by omega) (by omega) (f2 := (upd (upd (upd (upd (upd (upd (upd (upd (upd (upd (upd (upd (upd (upd (upd (upd (upd (upd (fun _ => (0 : Int32)) 0 (-1 : Int32)) 1 (-1 : Int32)) 2 (-1 : Int32)) 3 (-1 : Int32)) 4 (-1 : Int32)) 5 (-1 : Int32)) 6 (-1 : Int32)) 7 (-1 : Int32)) 8 (-1 : Int32)) 9 (-1 : Int32)) 10 (-1 : Int32)) 11 (-1 : Int32)) 12 (-1 : Int32)) 13 (-1 : Int32)) 14 (-1 : Int32)) 15 (-1 : Int32)) 16 (-1 : Int32)) 17 (-1 : Int32))) (rfl) (w2 := [(p9, .inl (cI, 24, .inl (upd (upd (upd (upd (upd (upd (upd (upd (upd (upd (upd (upd (upd (upd (upd (upd (upd (upd (fun _ => (0 : Int32)) 0 (-1 : Int32)) 1 (-1 : Int32)) 2 (-1 : Int32)) 3 (-1 : Int32)) 4 (-1 : Int32)) 5 (-1 : Int32)) 6 (-1 : Int32)) 7 (-1 : Int32)) 8 (-1 : Int32)) 9 (-1 : Int32)) 10 (-1 : Int32)) 11 (-1 : Int32)) 12 (-1 : Int32)) 13 (-1 : Int32)) 14 (-1 : Int32)) 15 (-1 : Int32)) 16 (-1 : Int32)) 17 (-1 : Int32))))]) rfl (fun _ h => h) dJ7_fill_53178_13 ?_
  refine g_iinc (lv' := [(0, .ref p9), (1, .int (-1 : Int32)), (2, .int (18 : Int32)), (3, .int (24 : Int32))]) B dJ7_fill_53178_14 2 rfl (by decide) (by decide) [1, 2, 0, 3] rfl ?_
  refine g_goto (tgt := 5) B dJ7_fill_53178_17 (by decide) ?_
  refine g_iload_n B dJ7_fill_53178_5 2 rfl ?_
  refine g_iload_n B dJ7_fill_53178_6 3 rfl ?_
  refine g_icmp_ge (tgt := 20) B dJ7_fill_53178_7 (by decide) (fun c19 => absurd c19 (by decide)) (fun _ => ?_)
  refine g_aload_n B dJ7_fill_53178_10 0 rfl ?_
  refine g_iload_n B dJ7_fill_53178_11 2 rfl ?_
  refine g_iload_n B dJ7_fill_53178_12 1 rfl ?_
  refine g_iast B hK 0 0 rfl rfl 18 rfl (by omega) (by omega) (f2 := (upd (upd (upd (upd (upd (upd (upd (upd (upd (upd (upd (upd (upd (upd (upd (upd (upd (upd (upd (fun _ => (0 : Int32)) 0 (-1 : Int32)) 1 (-1 : Int32)) 2 (-1 : Int32)) 3 (-1 : Int32)) 4 (-1 : Int32)) 5 (-1 : Int32)) 6 (-1 : Int32)) 7 (-1 : Int32)) 8 (-1 : Int32)) 9 (-1 : Int32)) 10 (-1 : Int32)) 11 (-1 : Int32)) 12 (-1 : Int32)) 13 (-1 : Int32)) 14 (-1 : Int32)) 15 (-1 : Int32)) 16 (-1 : Int32)) 17 (-1 : Int32)) 18 (-1 : Int32))) (rfl) (w2 := [(p9, .inl (cI, 24, .inl (upd (upd (upd (upd (upd (upd (upd (upd (upd (upd (upd (upd (upd (upd (upd (upd (upd (upd (upd (fun _ => (0 : Int32)) 0 (-1 : Int32)) 1 (-1 : Int32)) 2 (-1 : Int32)) 3 (-1 : Int32)) 4 (-1 : Int32)) 5 (-1 : Int32)) 6 (-1 : Int32)) 7 (-1 : Int32)) 8 (-1 : Int32)) 9 (-1 : Int32)) 10 (-1 : Int32)) 11 (-1 : Int32)) 12 (-1 : Int32)) 13 (-1 : Int32)) 14 (-1 : Int32)) 15 (-1 : Int32)) 16 (-1 : Int32)) 17 (-1 : Int32)) 18 (-1 : Int32))))]) rfl (fun _ h => h) dJ7_fill_53178_13 ?_
  refine g_iinc (lv' := [(0, .ref p9), (1, .int (-1 : Int32)), (2, .int (19 : Int32)), (3, .int (24 : Int32))]) B dJ7_fill_53178_14 2 rfl (by decide) (by decide) [1, 2, 0, 3] rfl ?_
  refine g_goto (tgt := 5) B dJ7_fill_53178_17 (by decide) ?_
  refine g_iload_n B dJ7_fill_53178_5 2 rfl ?_
  refine g_iload_n B dJ7_fill_53178_6 3 rfl ?_
  refine g_icmp_ge (tgt := 20) B dJ7_fill_53178_7 (by decide) (fun c20 => absurd c20 (by decide)) (fun _ => ?_)
  refine g_aload_n B dJ7_fill_53178_10 0 rfl ?_
  refine g_iload_n B dJ7_fill_53178_11 2 rfl ?_
  refine g_iload_n B dJ7_fill_53178_12 1 rfl ?_
  refine g_iast B hK 0 0 rfl rfl 19 rfl (by omega) (by omega) (f2 := (upd (upd (upd (upd (upd (upd (upd (upd (upd (upd (upd (upd (upd (upd (upd (upd (upd (upd (upd (upd (fun _ => (0 : Int32)) 0 (-1 : Int32)) 1 (-1 : Int32)) 2 (-1 : Int32)) 3 (-1 : Int32)) 4 (-1 : Int32)) 5 (-1 : Int32)) 6 (-1 : Int32)) 7 (-1 : Int32)) 8 (-1 : Int32)) 9 (-1 : Int32)) 10 (-1 : Int32)) 11 (-1 : Int32)) 12 (-1 : Int32)) 13 (-1 : Int32)) 14 (-1 : Int32)) 15 (-1 : Int32)) 16 (-1 : Int32)) 17 (-1 : Int32)) 18 (-1 : Int32)) 19 (-1 : Int32))) (rfl) (w2 := [(p9, .inl (cI, 24, .inl (upd (upd (upd (upd (upd (upd (upd (upd (upd (upd (upd (upd (upd (upd (upd (upd (upd (upd (upd (upd (fun _ => (0 : Int32)) 0 (-1 : Int32)) 1 (-1 : Int32)) 2 (-1 : Int32)) 3 (-1 : Int32)) 4 (-1 : Int32)) 5 (-1 : Int32)) 6 (-1 : Int32)) 7 (-1 : Int32)) 8 (-1 : Int32)) 9 (-1 : Int32)) 10 (-1 : Int32)) 11 (-1 : Int32)) 12 (-1 : Int32)) 13 (-1 : Int32)) 14 (-1 : Int32)) 15 (-1 : Int32)) 16 (-1 : Int32)) 17 (-1 : Int32)) 18 (-1 : Int32)) 19 (-1 : Int32))))]) rfl (fun _ h => h) dJ7_fill_53178_13 ?_
  refine g_iinc (lv' := [(0, .ref p9), (1, .int (-1 : Int32)), (2, .int (20 : Int32)), (3, .int (24 : Int32))]) B dJ7_fill_53178_14 2 rfl (by decide) (by decide) [1, 2, 0, 3] rfl ?_
  refine g_goto (tgt := 5) B dJ7_fill_53178_17 (by decide) ?_
  refine g_iload_n B dJ7_fill_53178_5 2 rfl ?_
  refine g_iload_n B dJ7_fill_53178_6 3 rfl ?_
  refine g_icmp_ge (tgt := 20) B dJ7_fill_53178_7 (by decide) (fun c21 => absurd c21 (by decide)) (fun _ => ?_)
  refine g_aload_n B dJ7_fill_53178_10 0 rfl ?_
  refine g_iload_n B dJ7_fill_53178_11 2 rfl ?_
  refine g_iload_n B dJ7_fill_53178_12 1 rfl ?_
  refine g_iast B hK 0 0 rfl rfl 20 rfl (by omega) (by omega) (f2 := (upd (upd (upd (upd (upd (upd (upd (upd (upd (upd (upd (upd (upd (upd (upd (upd (upd (upd (upd (upd (upd (fun _ => (0 : Int32)) 0 (-1 : Int32)) 1 (-1 : Int32)) 2 (-1 : Int32)) 3 (-1 : Int32)) 4 (-1 : Int32)) 5 (-1 : Int32)) 6 (-1 : Int32)) 7 (-1 : Int32)) 8 (-1 : Int32)) 9 (-1 : Int32)) 10 (-1 : Int32)) 11 (-1 : Int32)) 12 (-1 : Int32)) 13 (-1 : Int32)) 14 (-1 : Int32)) 15 (-1 : Int32)) 16 (-1 : Int32)) 17 (-1 : Int32)) 18 (-1 : Int32)) 19 (-1 : Int32)) 20 (-1 : Int32))) (rfl) (w2 := [(p9, .inl (cI, 24, .inl (upd (upd (upd (upd (upd (upd (upd (upd (upd (upd (upd (upd (upd (upd (upd (upd (upd (upd (upd (upd (upd (fun _ => (0 : Int32)) 0 (-1 : Int32)) 1 (-1 : Int32)) 2 (-1 : Int32)) 3 (-1 : Int32)) 4 (-1 : Int32)) 5 (-1 : Int32)) 6 (-1 : Int32)) 7 (-1 : Int32)) 8 (-1 : Int32)) 9 (-1 : Int32)) 10 (-1 : Int32)) 11 (-1 : Int32)) 12 (-1 : Int32)) 13 (-1 : Int32)) 14 (-1 : Int32)) 15 (-1 : Int32)) 16 (-1 : Int32)) 17 (-1 : Int32)) 18 (-1 : Int32)) 19 (-1 : Int32)) 20 (-1 : Int32))))]) rfl (fun _ h => h) dJ7_fill_53178_13 ?_
  refine g_iinc (lv' := [(0, .ref p9), (1, .int (-1 : Int32)), (2, .int (21 : Int32)), (3, .int (24 : Int32))]) B dJ7_fill_53178_14 2 rfl (by decide) (by decide) [1, 2, 0, 3] rfl ?_
  refine g_goto (tgt := 5) B dJ7_fill_53178_17 (by decide) ?_
  refine g_iload_n B dJ7_fill_53178_5 2 rfl ?_
  refine g_iload_n B dJ7_fill_53178_6 3 rfl ?_
  refine g_icmp_ge (tgt := 20) B dJ7_fill_53178_7 (by decide) (fun c22 => absurd c22 (by decide)) (fun _ => ?_)
  refine g_aload_n B dJ7_fill_53178_10 0 rfl ?_
  refine g_iload_n B dJ7_fill_53178_11 2 rfl ?_
  refine g_iload_n B dJ7_fill_53178_12 1 rfl ?_
  refine g_iast B hK 0 0 rfl rfl 21 rfl (by omega) (by omega) (f2 := (upd (upd (upd (upd (upd (upd (upd (upd (upd (upd (upd (upd (upd (upd (upd (upd (upd (upd (upd (upd (upd (upd (fun _ => (0 : Int32)) 0 (-1 : Int32)) 1 (-1 : Int32)) 2 (-1 : Int32)) 3 (-1 : Int32)) 4 (-1 : Int32)) 5 (-1 : Int32)) 6 (-1 : Int32)) 7 (-1 : Int32)) 8 (-1 : Int32)) 9 (-1 : Int32)) 10 (-1 : Int32)) 11 (-1 : Int32)) 12 (-1 : Int32)) 13 (-1 : Int32)) 14 (-1 : Int32)) 15 (-1 : Int32)) 16 (-1 : Int32)) 17 (-1 : Int32)) 18 (-1 : Int32)) 19 (-1 : Int32)) 20 (-1 : Int32)) 21 (-1 : Int32))) (rfl) (w2 := [(p9, .inl (cI, 24, .inl (upd (upd (upd (upd (upd (upd (upd (upd (upd (upd (upd (upd (upd (upd (upd (upd (upd (upd (upd (upd (upd (upd (fun _ => (0 : Int32)) 0 (-1 : Int32)) 1 (-1 : Int32)) 2 (-1 : Int32)) 3 (-1 : Int32)) 4 (-1 : Int32)) 5 (-1 : Int32)) 6 (-1 : Int32)) 7 (-1 : Int32)) 8 (-1 : Int32)) 9 (-1 : Int32)) 10 (-1 : Int32)) 11 (-1 : Int32)) 12 (-1 : Int32)) 13 (-1 : Int32)) 14 (-1 : Int32)) 15 (-1 : Int32)) 16 (-1 : Int32)) 17 (-1 : Int32)) 18 (-1 : Int32)) 19 (-1 : Int32)) 20 (-1 : Int32)) 21 (-1 : Int32))))]) rfl (fun _ h => h) dJ7_fill_53178_13 ?_
  refine g_iinc (lv' := [(0, .ref p9), (1, .int (-1 : Int32)), (2, .int (22 : Int32)), (3, .int (24 : Int32))]) B dJ7_fill_53178_14 2 rfl (by decide) (by decide) [1, 2, 0, 3] rfl ?_
  refine g_goto (tgt := 5) B dJ7_fill_53178_17 (by decide) ?_
  refine g_iload_n B dJ7_fill_53178_5 2 rfl ?_
  refine g_iload_n B dJ7_fill_53178_6 3 rfl ?_
  refine g_icmp_ge (tgt := 20) B dJ7_fill_53178_7 (by decide) (fun c23 => absurd c23 (by decide)) (fun _ => ?_)
  refine g_aload_n B dJ7_fill_53178_10 0 rfl ?_
  refine g_iload_n B dJ7_fill_53178_11 2 rfl ?_
  refine g_iload_n B dJ7_fill_53178_12 1 rfl ?_
  refine g_iast B hK 0 0 rfl rfl 22 rfl (by omega) (by omega) (f2 := (upd (upd (upd (upd (upd (upd (upd (upd (upd (upd (upd (upd (upd (upd (upd (upd (upd (upd (upd (upd (upd (upd (upd (fun _ => (0 : Int32)) 0 (-1 : Int32)) 1 (-1 : Int32)) 2 (-1 : Int32)) 3 (-1 : Int32)) 4 (-1 : Int32)) 5 (-1 : Int32)) 6 (-1 : Int32)) 7 (-1 : Int32)) 8 (-1 : Int32)) 9 (-1 : Int32)) 10 (-1 : Int32)) 11 (-1 : Int32)) 12 (-1 : Int32)) 13 (-1 : Int32)) 14 (-1 : Int32)) 15 (-1 : Int32)) 16 (-1 : Int32)) 17 (-1 : Int32)) 18 (-1 : Int32)) 19 (-1 : Int32)) 20 (-1 : Int32)) 21 (-1 : Int32)) 22 (-1 : Int32))) (rfl) (w2 := [(p9, .inl (cI, 24, .inl (upd (upd (upd (upd (upd (upd (upd (upd (upd (upd (upd (upd (upd (upd (upd (upd (upd (upd (upd (upd (upd (upd (upd (fun _ => (0 : Int32)) 0 (-1 : Int32)) 1 (-1 : Int32)) 2 (-1 : Int32)) 3 (-1 : Int32)) 4 (-1 : Int32)) 5 (-1 : Int32)) 6 (-1 : Int32)) 7 (-1 : Int32)) 8 (-1 : Int32)) 9 (-1 : Int32)) 10 (-1 : Int32)) 11 (-1 : Int32)) 12 (-1 : Int32)) 13 (-1 : Int32)) 14 (-1 : Int32)) 15 (-1 : Int32)) 16 (-1 : Int32)) 17 (-1 : Int32)) 18 (-1 : Int32)) 19 (-1 : Int32)) 20 (-1 : Int32)) 21 (-1 : Int32)) 22 (-1 : Int32))))]) rfl (fun _ h => h) dJ7_fill_53178_13 ?_
  refine g_iinc (lv' := [(0, .ref p9), (1, .int (-1 : Int32)), (2, .int (23 : Int32)), (3, .int (24 : Int32))]) B dJ7_fill_53178_14 2 rfl (by decide) (by decide) [1, 2, 0, 3] rfl ?_
  refine g_goto (tgt := 5) B dJ7_fill_53178_17 (by decide) ?_
  refine g_iload_n B dJ7_fill_53178_5 2 rfl ?_
  refine g_iload_n B dJ7_fill_53178_6 3 rfl ?_
  refine g_icmp_ge (tgt := 20) B dJ7_fill_53178_7 (by decide) (fun c24 => absurd c24 (by decide)) (fun _ => ?_)
  refine g_aload_n B dJ7_fill_53178_10 0 rfl ?_
  refine g_iload_n B dJ7_fill_53178_11 2 rfl ?_
  refine g_iload_n B dJ7_fill_53178_12 1 rfl ?_
  refine g_iast B hK 0 0 rfl rfl 23 rfl (by omega) (by omega) (f2 := (upd (upd (upd (upd (upd (upd (upd (upd (upd (upd (upd (upd (upd (upd (upd (upd (upd (upd (upd (upd (upd (upd (upd (upd (fun _ => (0 : Int32)) 0 (-1 : Int32)) 1 (-1 : Int32)) 2 (-1 : Int32)) 3 (-1 : Int32)) 4 (-1 : Int32)) 5 (-1 : Int32)) 6 (-1 : Int32)) 7 (-1 : Int32)) 8 (-1 : Int32)) 9 (-1 : Int32)) 10 (-1 : Int32)) 11 (-1 : Int32)) 12 (-1 : Int32)) 13 (-1 : Int32)) 14 (-1 : Int32)) 15 (-1 : Int32)) 16 (-1 : Int32)) 17 (-1 : Int32)) 18 (-1 : Int32)) 19 (-1 : Int32)) 20 (-1 : Int32)) 21 (-1 : Int32)) 22 (-1 : Int32)) 23 (-1 : Int32))) (rfl) (w2 := [(p9, .inl (cI, 24, .inl (upd (upd (upd (upd (upd (upd (upd (upd (upd (upd (upd (upd (upd (upd (upd (upd (upd (upd (upd (upd (upd (upd (upd (upd (fun _ => (0 : Int32)) 0 (-1 : Int32)) 1 (-1 : Int32)) 2 (-1 : Int32)) 3 (-1 : Int32)) 4 (-1 : Int32)) 5 (-1 : Int32)) 6 (-1 : Int32)) 7 (-1 : Int32)) 8 (-1 : Int32)) 9 (-1 : Int32)) 10 (-1 : Int32)) 11 (-1 : Int32)) 12 (-1 : Int32)) 13 (-1 : Int32)) 14 (-1 : Int32)) 15 (-1 : Int32)) 16 (-1 : Int32)) 17 (-1 : Int32)) 18 (-1 : Int32)) 19 (-1 : Int32)) 20 (-1 : Int32)) 21 (-1 : Int32)) 22 (-1 : Int32)) 23 (-1 : Int32))))]) rfl (fun _ h => h) dJ7_fill_53178_13 ?_
  refine g_iinc (lv' := [(0, .ref p9), (1, .int (-1 : Int32)), (2, .int (24 : Int32)), (3, .int (24 : Int32))]) B dJ7_fill_53178_14 2 rfl (by decide) (by decide) [1, 2, 0, 3] rfl ?_
  refine g_goto (tgt := 5) B dJ7_fill_53178_17 (by decide) ?_
  refine g_iload_n B dJ7_fill_53178_5 2 rfl ?_
  refine g_iload_n B dJ7_fill_53178_6 3 rfl ?_
  refine g_icmp_ge (tgt := 20) B dJ7_fill_53178_7 (by decide) (fun _ => ?_) (fun c25 => absurd (by decide) c25)
  refine g_arrI 0 (fun _ => (-1 : Int32)) rfl (by decide) (w2 := [(p9, .inl (cI, 24, .inl (fun _ => (-1 : Int32))))]) rfl ?_
  exact g_vret_w B hr hlocks () (rfl) (trivial) [0] (by decide) rfl dJ7_fill_53178_20

set_option maxHeartbeats 4000000 in
set_option maxRecDepth 100000 in
theorem k_fill_4 (l : Launch) {D : va_G} {cI cL cZ : ClassId} (p9 : Nat)  : WM l yJ7_fill_53178 wsJ7_fill_53178 ({ frames := 0, cells := 0, slots := 0, locals := 0 } : Room) D (gTys cI cL cZ) [.ref p9, .int (1 : Int32)] [(p9, .inl (cI, 4, .inl (fun _ => (0 : Int32))))] (fun (_ : Unit) => True) (fun (_ : Unit) => none) (fun (_ : Unit) => [(p9, .inl (cI, 4, .inl (fun _ => (1 : Int32))))]) := by
  refine WM.ofG cJ7_fill_53178 4 none (by decide +kernel) rfl (Nat.le_of_ble_eq_true rfl) ?_
  intro p e s m below meth c A hA B hr hlocks hname hK hN
  refine g_iconst (v := (0 : Int32)) B dJ7_fill_53178_0 (by decide) ?_
  refine g_istore_n (lv' := [(0, .ref p9), (1, .int (1 : Int32)), (2, .int (0 : Int32))]) B dJ7_fill_53178_1 rfl (by decide) [1, 2, 0] rfl ?_
  refine g_aload_n B dJ7_fill_53178_2 0 rfl ?_
  refine g_alen (v := (4 : Int32)) B hK 0 0 rfl rfl rfl dJ7_fill_53178_3 ?_
  refine g_istore_n (lv' := [(0, .ref p9), (1, .int (1 : Int32)), (2, .int (0 : Int32)), (3, .int (4 : Int32))]) B dJ7_fill_53178_4 rfl (by decide) [1, 2, 3, 0] rfl ?_
  refine g_iload_n B dJ7_fill_53178_5 2 rfl ?_
  refine g_iload_n B dJ7_fill_53178_6 3 rfl ?_
  refine g_icmp_ge (tgt := 20) B dJ7_fill_53178_7 (by decide) (fun c1 => absurd c1 (by decide)) (fun _ => ?_)
  refine g_aload_n B dJ7_fill_53178_10 0 rfl ?_
  refine g_iload_n B dJ7_fill_53178_11 2 rfl ?_
  refine g_iload_n B dJ7_fill_53178_12 1 rfl ?_
  refine g_iast B hK 0 0 rfl rfl 0 rfl (by omega) (by omega) (f2 := (upd (fun _ => (0 : Int32)) 0 (1 : Int32))) (rfl) (w2 := [(p9, .inl (cI, 4, .inl (upd (fun _ => (0 : Int32)) 0 (1 : Int32))))]) rfl (fun _ h => h) dJ7_fill_53178_13 ?_
  refine g_iinc (lv' := [(0, .ref p9), (1, .int (1 : Int32)), (2, .int (1 : Int32)), (3, .int (4 : Int32))]) B dJ7_fill_53178_14 2 rfl (by decide) (by decide) [1, 2, 0, 3] rfl ?_
  refine g_goto (tgt := 5) B dJ7_fill_53178_17 (by decide) ?_
  refine g_iload_n B dJ7_fill_53178_5 2 rfl ?_
  refine g_iload_n B dJ7_fill_53178_6 3 rfl ?_
  refine g_icmp_ge (tgt := 20) B dJ7_fill_53178_7 (by decide) (fun c2 => absurd c2 (by decide)) (fun _ => ?_)
  refine g_aload_n B dJ7_fill_53178_10 0 rfl ?_
  refine g_iload_n B dJ7_fill_53178_11 2 rfl ?_
  refine g_iload_n B dJ7_fill_53178_12 1 rfl ?_
  refine g_iast B hK 0 0 rfl rfl 1 rfl (by omega) (by omega) (f2 := (upd (upd (fun _ => (0 : Int32)) 0 (1 : Int32)) 1 (1 : Int32))) (rfl) (w2 := [(p9, .inl (cI, 4, .inl (upd (upd (fun _ => (0 : Int32)) 0 (1 : Int32)) 1 (1 : Int32))))]) rfl (fun _ h => h) dJ7_fill_53178_13 ?_
  refine g_iinc (lv' := [(0, .ref p9), (1, .int (1 : Int32)), (2, .int (2 : Int32)), (3, .int (4 : Int32))]) B dJ7_fill_53178_14 2 rfl (by decide) (by decide) [1, 2, 0, 3] rfl ?_
  refine g_goto (tgt := 5) B dJ7_fill_53178_17 (by decide) ?_
  refine g_iload_n B dJ7_fill_53178_5 2 rfl ?_
  refine g_iload_n B dJ7_fill_53178_6 3 rfl ?_
  refine g_icmp_ge (tgt := 20) B dJ7_fill_53178_7 (by decide) (fun c3 => absurd c3 (by decide)) (fun _ => ?_)
  refine g_aload_n B dJ7_fill_53178_10 0 rfl ?_
  refine g_iload_n B dJ7_fill_53178_11 2 rfl ?_
  refine g_iload_n B dJ7_fill_53178_12 1 rfl ?_
  refine g_iast B hK 0 0 rfl rfl 2 rfl (by omega) (by omega) (f2 := (upd (upd (upd (fun _ => (0 : Int32)) 0 (1 : Int32)) 1 (1 : Int32)) 2 (1 : Int32))) (rfl) (w2 := [(p9, .inl (cI, 4, .inl (upd (upd (upd (fun _ => (0 : Int32)) 0 (1 : Int32)) 1 (1 : Int32)) 2 (1 : Int32))))]) rfl (fun _ h => h) dJ7_fill_53178_13 ?_
  refine g_iinc (lv' := [(0, .ref p9), (1, .int (1 : Int32)), (2, .int (3 : Int32)), (3, .int (4 : Int32))]) B dJ7_fill_53178_14 2 rfl (by decide) (by decide) [1, 2, 0, 3] rfl ?_
  refine g_goto (tgt := 5) B dJ7_fill_53178_17 (by decide) ?_
  refine g_iload_n B dJ7_fill_53178_5 2 rfl ?_
  refine g_iload_n B dJ7_fill_53178_6 3 rfl ?_
  refine g_icmp_ge (tgt := 20) B dJ7_fill_53178_7 (by decide) (fun c4 => absurd c4 (by decide)) (fun _ => ?_)
  refine g_aload_n B dJ7_fill_53178_10 0 rfl ?_
  refine g_iload_n B dJ7_fill_53178_11 2 rfl ?_
  refine g_iload_n B dJ7_fill_53178_12 1 rfl ?_
  refine g_iast B hK 0 0 rfl rfl 3 rfl (by omega) (by omega) (f2 := (upd (upd (upd (upd (fun _ => (0 : Int32)) 0 (1 : Int32)) 1 (1 : Int32)) 2 (1 : Int32)) 3 (1 : Int32))) (rfl) (w2 := [(p9, .inl (cI, 4, .inl (upd (upd (upd (upd (fun _ => (0 : Int32)) 0 (1 : Int32)) 1 (1 : Int32)) 2 (1 : Int32)) 3 (1 : Int32))))]) rfl (fun _ h => h) dJ7_fill_53178_13 ?_
  refine g_iinc (lv' := [(0, .ref p9), (1, .int (1 : Int32)), (2, .int (4 : Int32)), (3, .int (4 : Int32))]) B dJ7_fill_53178_14 2 rfl (by decide) (by decide) [1, 2, 0, 3] rfl ?_
  refine g_goto (tgt := 5) B dJ7_fill_53178_17 (by decide) ?_
  refine g_iload_n B dJ7_fill_53178_5 2 rfl ?_
  refine g_iload_n B dJ7_fill_53178_6 3 rfl ?_
  refine g_icmp_ge (tgt := 20) B dJ7_fill_53178_7 (by decide) (fun _ => ?_) (fun c5 => absurd (by decide) c5)
  refine g_arrI 0 (fun _ => (1 : Int32)) rfl (by decide) (w2 := [(p9, .inl (cI, 4, .inl (fun _ => (1 : Int32))))]) rfl ?_
  exact g_vret_w B hr hlocks () (rfl) (trivial) [0] (by decide) rfl dJ7_fill_53178_20

set_option maxHeartbeats 4000000 in
set_option maxRecDepth 100000 in
theorem k_2_init (l : Launch) {D : va_G} {cI cL cZ : ClassId} (hp : Nat)  : WM l yX2_init wsX2_init ({ frames := 1, cells := 5, slots := 72, locals := 23 } : Room) D (gTys cI cL cZ) [.ref hp] [(hp, .inr (2, [.null, .null, .null, .null, .null]))] (fun (q : Nat × Nat × Nat × Nat × Nat) => True) (fun (q : Nat × Nat × Nat × Nat × Nat) => none) (fun (q : Nat × Nat × Nat × Nat × Nat) => [(hp, .inr (2, [.ref q.1, .ref q.2.1, .ref q.2.2.1, .ref q.2.2.2.1, .ref q.2.2.2.2])), (q.1, .inl (cI, 12, .inl (fun _ => (0 : Int32)))), (q.2.1, .inl (cI, 12, .inl (fun _ => (0 : Int32)))), (q.2.2.1, .inl (cI, 12, .inl (fun _ => (0 : Int32)))), (q.2.2.2.1, .inl (cI, 24, .inl (fun _ => (-1 : Int32)))), (q.2.2.2.2, .inl (cZ, 12, .inl (fun _ => (0 : Int32))))]) := by
  refine WM.ofG cX2_init 1 none (by decide +kernel) rfl (Nat.le_of_ble_eq_true rfl) ?_
  intro p e s m below meth c A hA B hr hlocks hname hK hN
  refine g_aload_n B dX2_init_0 0 rfl ?_
  refine g_objInit B (List.mem_of_getElem? (i := 1) rfl) (List.mem_of_getElem? (i := 2) rfl) (List.mem_of_getElem? (i := 3) rfl) (by decide) (by decide) dX2_init_1 ?_
  refine g_aload_n B dX2_init_4 0 rfl ?_
  refine g_bipush (v := (12 : Int32)) B dX2_init_5 (by decide) ?_
  refine g_newa B hK hA 0 rfl rfl (List.mem_of_getElem? (i := 4) rfl) rfl (12, .inl (fun _ => (0 : Int32))) (cellI_new 12) (by decide) (by decide) (by decide) (by decide) (by decide) dX2_init_7 (fun q1 => ?_)
  refine g_eqw (w2 := [(hp, .inr (2, [.null, .null, .null, .null, .null])), (q1, .inl (cI, 12, .inl (fun _ => (0 : Int32))))]) rfl ?_
  refine g_putF (C := RX2) (T := TX2) (N := 5) (ci := 2) B hK hin_X2_init_RX2 0 rfl rfl 0 (by decide) tyX2 tyX2_ok nmX2 (List.mem_of_getElem? (i := 5) rfl) rfl rfl hname rfl (ty := .array .int) (v := .ref q1) (by decide +kernel) rfl rfl (Nat.le_of_ble_eq_true rfl) (w2 := [(hp, .inr (2, [.ref q1, .null, .null, .null, .null])), (q1, .inl (cI, 12, .inl (fun _ => (0 : Int32))))]) rfl (fun _ h => h) dX2_init_9 ?_
  refine g_aload_n B dX2_init_12 0 rfl ?_
  refine g_bipush (v := (12 : Int32)) B dX2_init_13 (by decide) ?_
  refine g_newa B hK hA 0 rfl rfl (List.mem_of_getElem? (i := 4) rfl) rfl (12, .inl (fun _ => (0 : Int32))) (cellI_new 12) (by decide) (by decide) (by decide) (by decide) (by decide) dX2_init_15 (fun q2 => ?_)
  refine g_eqw (w2 := [(hp, .inr (2, [.ref q1, .null, .null, .null, .null])), (q1, .inl (cI, 12, .inl (fun _ => (0 : Int32)))), (q2, .inl (cI, 12, .inl (fun _ => (0 : Int32))))]) rfl ?_
  refine g_putF (C := RX2) (T := TX2) (N := 5) (ci := 2) B hK hin_X2_init_RX2 0 rfl rfl 1 (by decide) tyX2 tyX2_ok nmX2 (List.mem_of_getElem? (i := 6) rfl) rfl rfl hname rfl (ty := .array .int) (v := .ref q2) (by decide +kernel) rfl rfl (Nat.le_of_ble_eq_true rfl) (w2 := [(hp, .inr (2, [.ref q1, .ref q2, .null, .null, .null])), (q1, .inl (cI, 12, .inl (fun _ => (0 : Int32)))), (q2, .inl (cI, 12, .inl (fun _ => (0 : Int32))))]) rfl (fun _ h => h) dX2_init_17 ?_
  refine g_aload_n B dX2_init_20 0 rfl ?_
  refine g_bipush (v := (12 : Int32)) B dX2_init_21 (by decide) ?_
  refine g_newa B hK hA 0 rfl rfl (List.mem_of_getElem? (i := 4) rfl) rfl (12, .inl (fun _ => (0 : Int32))) (cellI_new 12) (by decide) (by decide) (by decide) (by decide) (by decide) dX2_init_23 (fun q3 => ?_)
  refine g_eqw (w2 := [(hp, .inr (2, [.ref q1, .ref q2, .null, .null, .null])), (q1, .inl (cI, 12, .inl (fun _ => (0 : Int32)))), (q2, .inl (cI, 12, .inl (fun _ => (0 : Int32)))), (q3, .inl (cI, 12, .inl (fun _ => (0 : Int32))))]) rfl ?_
  refine g_putF (C := RX2) (T := TX2) (N := 5) (ci := 2) B hK hin_X2_init_RX2 0 rfl rfl 2 (by decide) tyX2 tyX2_ok nmX2 (List.mem_of_getElem? (i := 7) rfl) rfl rfl hname rfl (ty := .array .int) (v := .ref q3) (by decide +kernel) rfl rfl (Nat.le_of_ble_eq_true rfl) (w2 := [(hp, .inr (2, [.ref q1, .ref q2, .ref q3, .null, .null])), (q1, .inl (cI, 12, .inl (fun _ => (0 : Int32)))), (q2, .inl (cI, 12, .inl (fun _ => (0 : Int32)))), (q3, .inl (cI, 12, .inl (fun _ => (0 : Int32))))]) rfl (fun _ h => h) dX2_init_25 ?_
  refine g_aload_n B dX2_init_28 0 rfl ?_
  refine g_bipush (v := (24 : Int32)) B dX2_init_29 (by decide) ?_
  refine g_newa B hK hA 0 rfl rfl (List.mem_of_getElem? (i := 4) rfl) rfl (24, .inl (fun _ => (0 : Int32))) (cellI_new 24) (by decide) (by decide) (by decide) (by decide) (by decide) dX2_init_31 (fun q4 => ?_)
  refine g_eqw (w2 := [(hp, .inr (2, [.ref q1, .ref q2, .ref q3, .null, .null])), (q1, .inl (cI, 12, .inl (fun _ => (0 : Int32)))), (q2, .inl (cI, 12, .inl (fun _ => (0 : Int32)))), (q3, .inl (cI, 12, .inl (fun _ => (0 : Int32)))), (q4, .inl (cI, 24, .inl (fun _ => (0 : Int32))))]) rfl ?_
  refine g_putF (C := RX2) (T := TX2) (N := 5) (ci := 2) B hK hin_X2_init_RX2 0 rfl rfl 3 (by decide) tyX2 tyX2_ok nmX2 (List.mem_of_getElem? (i := 8) rfl) rfl rfl hname rfl (ty := .array .int) (v := .ref q4) (by decide +kernel) rfl rfl (Nat.le_of_ble_eq_true rfl) (w2 := [(hp, .inr (2, [.ref q1, .ref q2, .ref q3, .ref q4, .null])), (q1, .inl (cI, 12, .inl (fun _ => (0 : Int32)))), (q2, .inl (cI, 12, .inl (fun _ => (0 : Int32)))), (q3, .inl (cI, 12, .inl (fun _ => (0 : Int32)))), (q4, .inl (cI, 24, .inl (fun _ => (0 : Int32))))]) rfl (fun _ h => h) dX2_init_33 ?_
  refine g_aload_n B dX2_init_36 0 rfl ?_
  refine g_bipush (v := (12 : Int32)) B dX2_init_37 (by decide) ?_
  refine g_newa B hK hA 2 rfl rfl (List.mem_of_getElem? (i := 9) rfl) rfl (12, .inl (fun _ => (0 : Int32))) (cellZ_new 12) (by decide) (by decide) (by decide) (by decide) (by decide) dX2_init_39 (fun q5 => ?_)
  refine g_eqw (w2 := [(hp, .inr (2, [.ref q1, .ref q2, .ref q3, .ref q4, .null])), (q1, .inl (cI, 12, .inl (fun _ => (0 : Int32)))), (q2, .inl (cI, 12, .inl (fun _ => (0 : Int32)))), (q3, .inl (cI, 12, .inl (fun _ => (0 : Int32)))), (q4, .inl (cI, 24, .inl (fun _ => (0 : Int32)))), (q5, .inl (cZ, 12, .inl (fun _ => (0 : Int32))))]) rfl ?_
  refine g_putF (C := RX2) (T := TX2) (N := 5) (ci := 2) B hK hin_X2_init_RX2 0 rfl rfl 4 (by decide) tyX2 tyX2_ok nmX2 (List.mem_of_getElem? (i := 10) rfl) rfl rfl hname rfl (ty := .array .boolean) (v := .ref q5) (by decide +kernel) rfl rfl (Nat.le_of_ble_eq_true rfl) (w2 := [(hp, .inr (2, [.ref q1, .ref q2, .ref q3, .ref q4, .ref q5])), (q1, .inl (cI, 12, .inl (fun _ => (0 : Int32)))), (q2, .inl (cI, 12, .inl (fun _ => (0 : Int32)))), (q3, .inl (cI, 12, .inl (fun _ => (0 : Int32)))), (q4, .inl (cI, 24, .inl (fun _ => (0 : Int32)))), (q5, .inl (cZ, 12, .inl (fun _ => (0 : Int32))))]) rfl (fun _ h => h) dX2_init_41 ?_
  refine g_aload_n B dX2_init_44 0 rfl ?_
  refine g_get (C := RX2) (T := TX2) (N := 5) (ci := 2) B hK hin_X2_init_RX2 0 rfl rfl 3 (by decide) (List.mem_of_getElem? (i := 8) rfl) rfl (v := .ref q4) rfl dX2_init_45 ?_
  refine g_iconst (v := (-1 : Int32)) B dX2_init_48 (by decide) ?_
  refine g_callW (w2 := (fun (_ : Unit) => [(hp, .inr (2, [.ref q1, .ref q2, .ref q3, .ref q4, .ref q5])), (q1, .inl (cI, 12, .inl (fun _ => (0 : Int32)))), (q2, .inl (cI, 12, .inl (fun _ => (0 : Int32)))), (q3, .inl (cI, 12, .inl (fun _ => (0 : Int32)))), (q4, .inl (cI, 24, .inl (fun _ => (-1 : Int32)))), (q5, .inl (cZ, 12, .inl (fun _ => (0 : Int32))))])) (g_runS B (k_fill_24 l (D := D) (cI := cI) (cL := cL) (cZ := cZ) q4 ) (gPw.pre (av := [.ref q4, .int (-1 : Int32)]) (wc := [(q4, .inl (cI, 24, .inl (fun _ => (0 : Int32))))]) hK hN [4] rfl (by decide)) gX2_init_J7_fill_53178 rfl kd_J7_fill_53178 ⟨by decide, by decide⟩ (st := []) rfl (Nat.le_of_ble_eq_true rfl) dX2_init_49 ⟨by decide, by decide⟩) hA (fun _ h => h) [4] [0, 1, 2, 3, 5] (wr := [(hp, .inr (2, [.ref q1, .ref q2, .ref q3, .ref q4, .ref q5])), (q1, .inl (cI, 12, .inl (fun _ => (0 : Int32)))), (q2, .inl (cI, 12, .inl (fun _ => (0 : Int32)))), (q3, .inl (cI, 12, .inl (fun _ => (0 : Int32)))), (q5, .inl (cZ, 12, .inl (fun _ => (0 : Int32))))]) rfl rfl (by decide) (by decide) [0, 1, 2, 3, 5, 4] (by decide) (fun _ => rfl) (fun u hu => ?_)
  refine g_widen (k := 5) (n := 72) (by (try dsimp only); omega) (by (try dsimp only); omega) ?_
  exact g_vret_w B hr hlocks (q1, q2, q3, q4, q5) (rfl) (trivial) [0, 1, 2, 3, 4, 5] (by decide) rfl dX2_init_52

set_option maxHeartbeats 4000000 in
set_option maxRecDepth 100000 in
theorem k_4_init (l : Launch) {D : va_G} {cI cL cZ : ClassId} (ht : Nat)  : WM l yX4_init wsX4_init ({ frames := 1, cells := 1, slots := 30, locals := 20 } : Room) D (gTys cI cL cZ) [.ref ht] [(ht, .inr (4, [.null, .int (0 : Int32), .int (0 : Int32), .long (0 : Int64)]))] (fun (t0 : Nat) => True) (fun (t0 : Nat) => none) (fun (t0 : Nat) => [(ht, .inr (4, [.ref t0, .int (0 : Int32), .int (0 : Int32), .long (0 : Int64)])), (t0, .inl (cI, 30, .inl (fun _ => (0 : Int32))))]) := by
  refine WM.ofG cX4_init 1 none (by decide +kernel) rfl (Nat.le_of_ble_eq_true rfl) ?_
  intro p e s m below meth c A hA B hr hlocks hname hK hN
  refine g_aload_n B dX4_init_0 0 rfl ?_
  refine g_objInit B (List.mem_of_getElem? (i := 1) rfl) (List.mem_of_getElem? (i := 2) rfl) (List.mem_of_getElem? (i := 3) rfl) (by decide) (by decide) dX4_init_1 ?_
  refine g_aload_n B dX4_init_4 0 rfl ?_
  refine g_bipush (v := (30 : Int32)) B dX4_init_5 (by decide) ?_
  refine g_newa B hK hA 0 rfl rfl (List.mem_of_getElem? (i := 4) rfl) rfl (30, .inl (fun _ => (0 : Int32))) (cellI_new 30) (by decide) (by decide) (by decide) (by decide) (by decide) dX4_init_7 (fun q1 => ?_)
  refine g_eqw (w2 := [(ht, .inr (4, [.null, .int (0 : Int32), .int (0 : Int32), .long (0 : Int64)])), (q1, .inl (cI, 30, .inl (fun _ => (0 : Int32))))]) rfl ?_
  refine g_putF (C := RX4) (T := TX4) (N := 4) (ci := 4) B hK hin_X4_init_RX4 0 rfl rfl 0 (by decide) tyX4 tyX4_ok nmX4 (List.mem_of_getElem? (i := 5) rfl) rfl rfl hname rfl (ty := .array .int) (v := .ref q1) (by decide +kernel) rfl rfl (Nat.le_of_ble_eq_true rfl) (w2 := [(ht, .inr (4, [.ref q1, .int (0 : Int32), .int (0 : Int32), .long (0 : Int64)])), (q1, .inl (cI, 30, .inl (fun _ => (0 : Int32))))]) rfl (fun _ h => h) dX4_init_9 ?_
  refine g_widen (k := 1) (n := 30) (by (try dsimp only); omega) (by (try dsimp only); omega) ?_
  exact g_vret_w B hr hlocks q1 (rfl) (trivial) [0, 1] (by decide) rfl dX4_init_12

set_option maxHeartbeats 4000000 in
set_option maxRecDepth 100000 in
theorem k_1_init (l : Launch) {D : va_G} {cI cL cZ : ClassId} (hg : Nat)  : WM l yX1_init wsX1_init ({ frames := 1, cells := 3, slots := 12, locals := 23 } : Room) D (gTys cI cL cZ) [.ref hg] [(hg, .inr (1, [.null, .null, .null, .int (0 : Int32)]))] (fun (q : Nat × Nat × Nat) => True) (fun (q : Nat × Nat × Nat) => none) (fun (q : Nat × Nat × Nat) => [(hg, .inr (1, [.ref q.1, .ref q.2.1, .ref q.2.2, .int (1 : Int32)])), (q.1, .inl (cI, 4, .inl (fun _ => (1 : Int32)))), (q.2.1, .inl (cI, 4, .inl (fun _ => (1 : Int32)))), (q.2.2, .inl (cI, 4, .inl (fun _ => (1 : Int32))))]) := by
  refine WM.ofG cX1_init 1 none (by decide +kernel) rfl (Nat.le_of_ble_eq_true rfl) ?_
  intro p e s m below meth c A hA B hr hlocks hname hK hN
  refine g_aload_n B dX1_init_0 0 rfl ?_
  refine g_objInit B (List.mem_of_getElem? (i := 1) rfl) (List.mem_of_getElem? (i := 2) rfl) (List.mem_of_getElem? (i := 3) rfl) (by decide) (by decide) dX1_init_1 ?_
  refine g_aload_n B dX1_init_4 0 rfl ?_
  refine g_iconst (v := (4 : Int32)) B dX1_init_5 (by decide) ?_
  refine g_newa B hK hA 0 rfl rfl (List.mem_of_getElem? (i := 4) rfl) rfl (4, .inl (fun _ => (0 : Int32))) (cellI_new 4) (by decide) (by decide) (by decide) (by decide) (by decide) dX1_init_6 (fun q1 => ?_)
  refine g_eqw (w2 := [(hg, .inr (1, [.null, .null, .null, .int (0 : Int32)])), (q1, .inl (cI, 4, .inl (fun _ => (0 : Int32))))]) rfl ?_
  refine g_putF (C := RX1) (T := TX1) (N := 4) (ci := 1) B hK hin_X1_init_RX1 0 rfl rfl 0 (by decide) tyX1 tyX1_ok nmX1 (List.mem_of_getElem? (i := 5) rfl) rfl rfl hname rfl (ty := .array .int) (v := .ref q1) (by decide +kernel) rfl rfl (Nat.le_of_ble_eq_true rfl) (w2 := [(hg, .inr (1, [.ref q1, .null, .null, .int (0 : Int32)])), (q1, .inl (cI, 4, .inl (fun _ => (0 : Int32))))]) rfl (fun _ h => h) dX1_init_8 ?_
  refine g_aload_n B dX1_init_11 0 rfl ?_
  refine g_iconst (v := (4 : Int32)) B dX1_init_12 (by decide) ?_
  refine g_newa B hK hA 0 rfl rfl (List.mem_of_getElem? (i := 4) rfl) rfl (4, .inl (fun _ => (0 : Int32))) (cellI_new 4) (by decide) (by decide) (by decide) (by decide) (by decide) dX1_init_13 (fun q2 => ?_)
  refine g_eqw (w2 := [(hg, .inr (1, [.ref q1, .null, .null, .int (0 : Int32)])), (q1, .inl (cI, 4, .inl (fun _ => (0 : Int32)))), (q2, .inl (cI, 4, .inl (fun _ => (0 : Int32))))]) rfl ?_
  refine g_putF (C := RX1) (T := TX1) (N := 4) (ci := 1) B hK hin_X1_init_RX1 0 rfl rfl 1 (by decide) tyX1 tyX1_ok nmX1 (List.mem_of_getElem? (i := 6) rfl) rfl rfl hname rfl (ty := .array .int) (v := .ref q2) (by decide +kernel) rfl rfl (Nat.le_of_ble_eq_true rfl) (w2 := [(hg, .inr (1, [.ref q1, .ref q2, .null, .int (0 : Int32)])), (q1, .inl (cI, 4, .inl (fun _ => (0 : Int32)))), (q2, .inl (cI, 4, .inl (fun _ => (0 : Int32))))]) rfl (fun _ h => h) dX1_init_15 ?_
  refine g_aload_n B dX1_init_18 0 rfl ?_
  refine g_iconst (v := (4 : Int32)) B dX1_init_19 (by decide) ?_
  refine g_newa B hK hA 0 rfl rfl (List.mem_of_getElem? (i := 4) rfl) rfl (4, .inl (fun _ => (0 : Int32))) (cellI_new 4) (by decide) (by decide) (by decide) (by decide) (by decide) dX1_init_20 (fun q3 => ?_)
  refine g_eqw (w2 := [(hg, .inr (1, [.ref q1, .ref q2, .null, .int (0 : Int32)])), (q1, .inl (cI, 4, .inl (fun _ => (0 : Int32)))), (q2, .inl (cI, 4, .inl (fun _ => (0 : Int32)))), (q3, .inl (cI, 4, .inl (fun _ => (0 : Int32))))]) rfl ?_
  refine g_putF (C := RX1) (T := TX1) (N := 4) (ci := 1) B hK hin_X1_init_RX1 0 rfl rfl 2 (by decide) tyX1 tyX1_ok nmX1 (List.mem_of_getElem? (i := 7) rfl) rfl rfl hname rfl (ty := .array .int) (v := .ref q3) (by decide +kernel) rfl rfl (Nat.le_of_ble_eq_true rfl) (w2 := [(hg, .inr (1, [.ref q1, .ref q2, .ref q3, .int (0 : Int32)])), (q1, .inl (cI, 4, .inl (fun _ => (0 : Int32)))), (q2, .inl (cI, 4, .inl (fun _ => (0 : Int32)))), (q3, .inl (cI, 4, .inl (fun _ => (0 : Int32))))]) rfl (fun _ h => h) dX1_init_22 ?_
  refine g_aload_n B dX1_init_25 0 rfl ?_
  refine g_iconst (v := (1 : Int32)) B dX1_init_26 (by decide) ?_
  refine g_put (C := RX1) (T := TX1) (N := 4) (ci := 1) B hK hin_X1_init_RX1 0 rfl rfl 3 (by decide) tyX1 tyX1_ok nmX1 (List.mem_of_getElem? (i := 8) rfl) rfl rfl (ty := .int) (v := .int (1 : Int32)) (by decide +kernel) rfl rfl (Nat.le_of_ble_eq_true rfl) (w2 := [(hg, .inr (1, [.ref q1, .ref q2, .ref q3, .int (1 : Int32)])), (q1, .inl (cI, 4, .inl (fun _ => (0 : Int32)))), (q2, .inl (cI, 4, .inl (fun _ => (0 : Int32)))), (q3, .inl (cI, 4, .inl (fun _ => (0 : Int32))))]) rfl (fun _ h => h) dX1_init_27 ?_
  refine g_aload_n B dX1_init_30 0 rfl ?_
  refine g_get (C := RX1) (T := TX1) (N := 4) (ci := 1) B hK hin_X1_init_RX1 0 rfl rfl 0 (by decide) (List.mem_of_getElem? (i := 5) rfl) rfl (v := .ref q1) rfl dX1_init_31 ?_
  refine g_iconst (v := (1 : Int32)) B dX1_init_34 (by decide) ?_
  refine g_callW (w2 := (fun (_ : Unit) => [(hg, .inr (1, [.ref q1, .ref q2, .ref q3, .int (1 : Int32)])), (q1, .inl (cI, 4, .inl (fun _ => (1 : Int32)))), (q2, .inl (cI, 4, .inl (fun _ => (0 : Int32)))), (q3, .inl (cI, 4, .inl (fun _ => (0 : Int32))))])) (g_runS B (k_fill_4 l (D := D) (cI := cI) (cL := cL) (cZ := cZ) q1 ) (gPw.pre (av := [.ref q1, .int (1 : Int32)]) (wc := [(q1, .inl (cI, 4, .inl (fun _ => (0 : Int32))))]) hK hN [1] rfl (by decide)) gX1_init_J7_fill_53178 rfl kd_J7_fill_53178 ⟨by decide, by decide⟩ (st := []) rfl (Nat.le_of_ble_eq_true rfl) dX1_init_35 ⟨by decide, by decide⟩) hA (fun _ h => h) [1] [0, 2, 3] (wr := [(hg, .inr (1, [.ref q1, .ref q2, .ref q3, .int (1 : Int32)])), (q2, .inl (cI, 4, .inl (fun _ => (0 : Int32)))), (q3, .inl (cI, 4, .inl (fun _ => (0 : Int32))))]) rfl rfl (by decide) (by decide) [0, 3, 1, 2] (by decide) (fun _ => rfl) (fun u hu => ?_)
  refine g_aload_n B dX1_init_38 0 rfl ?_
  refine g_get (C := RX1) (T := TX1) (N := 4) (ci := 1) B hK hin_X1_init_RX1 0 rfl rfl 1 (by decide) (List.mem_of_getElem? (i := 6) rfl) rfl (v := .ref q2) rfl dX1_init_39 ?_
  refine g_iconst (v := (1 : Int32)) B dX1_init_42 (by decide) ?_
  refine g_callW (w2 := (fun (_ : Unit) => [(hg, .inr (1, [.ref q1, .ref q2, .ref q3, .int (1 : Int32)])), (q1, .inl (cI, 4, .inl (fun _ => (1 : Int32)))), (q2, .inl (cI, 4, .inl (fun _ => (1 : Int32)))), (q3, .inl (cI, 4, .inl (fun _ => (0 : Int32))))])) (g_runS B (k_fill_4 l (D := D) (cI := cI) (cL := cL) (cZ := cZ) q2 ) (gPw.pre (av := [.ref q2, .int (1 : Int32)]) (wc := [(q2, .inl (cI, 4, .inl (fun _ => (0 : Int32))))]) hK hN [2] rfl (by decide)) gX1_init_J7_fill_53178 rfl kd_J7_fill_53178 ⟨by decide, by decide⟩ (st := []) rfl (Nat.le_of_ble_eq_true rfl) dX1_init_43 ⟨by decide, by decide⟩) hA (fun _ h => h) [2] [0, 1, 3] (wr := [(hg, .inr (1, [.ref q1, .ref q2, .ref q3, .int (1 : Int32)])), (q1, .inl (cI, 4, .inl (fun _ => (1 : Int32)))), (q3, .inl (cI, 4, .inl (fun _ => (0 : Int32))))]) rfl rfl (by decide) (by decide) [0, 1, 3, 2] (by decide) (fun _ => rfl) (fun u hu => ?_)
  refine g_aload_n B dX1_init_46 0 rfl ?_
  refine g_get (C := RX1) (T := TX1) (N := 4) (ci := 1) B hK hin_X1_init_RX1 0 rfl rfl 2 (by decide) (List.mem_of_getElem? (i := 7) rfl) rfl (v := .ref q3) rfl dX1_init_47 ?_
  refine g_iconst (v := (1 : Int32)) B dX1_init_50 (by decide) ?_
  refine g_callW (w2 := (fun (_ : Unit) => [(hg, .inr (1, [.ref q1, .ref q2, .ref q3, .int (1 : Int32)])), (q1, .inl (cI, 4, .inl (fun _ => (1 : Int32)))), (q2, .inl (cI, 4, .inl (fun _ => (1 : Int32)))), (q3, .inl (cI, 4, .inl (fun _ => (1 : Int32))))])) (g_runS B (k_fill_4 l (D := D) (cI := cI) (cL := cL) (cZ := cZ) q3 ) (gPw.pre (av := [.ref q3, .int (1 : Int32)]) (wc := [(q3, .inl (cI, 4, .inl (fun _ => (0 : Int32))))]) hK hN [3] rfl (by decide)) gX1_init_J7_fill_53178 rfl kd_J7_fill_53178 ⟨by decide, by decide⟩ (st := []) rfl (Nat.le_of_ble_eq_true rfl) dX1_init_51 ⟨by decide, by decide⟩) hA (fun _ h => h) [3] [0, 1, 2] (wr := [(hg, .inr (1, [.ref q1, .ref q2, .ref q3, .int (1 : Int32)])), (q1, .inl (cI, 4, .inl (fun _ => (1 : Int32)))), (q2, .inl (cI, 4, .inl (fun _ => (1 : Int32))))]) rfl rfl (by decide) (by decide) [0, 1, 2, 3] (by decide) (fun _ => rfl) (fun u hu => ?_)
  refine g_widen (k := 3) (n := 12) (by (try dsimp only); omega) (by (try dsimp only); omega) ?_
  exact g_vret_w B hr hlocks (q1, q2, q3) (rfl) (trivial) [0, 1, 2, 3] (by decide) rfl dX1_init_54

set_option maxHeartbeats 4000000 in
set_option maxRecDepth 100000 in
theorem k_0_init (l : Launch) {D : va_G} {cI cL cZ : ClassId} (ha : Nat)  : WM l yX0_init wsX0_init ({ frames := 1, cells := 4, slots := 164, locals := 20 } : Room) D (gTys cI cL cZ) [.ref ha] [(ha, .inr (0, [.null, .null, .null, .null, .int (0 : Int32), .long (0 : Int64)]))] (fun (q : Nat × Nat × Nat × Nat) => True) (fun (q : Nat × Nat × Nat × Nat) => none) (fun (q : Nat × Nat × Nat × Nat) => [(ha, .inr (0, [.ref q.1, .ref q.2.1, .ref q.2.2.1, .ref q.2.2.2, .int (0 : Int32), .long (0 : Int64)])), (q.1, .inl (cI, 41, .inl (fun _ => (0 : Int32)))), (q.2.1, .inl (cI, 41, .inl (fun _ => (0 : Int32)))), (q.2.2.1, .inl (cI, 41, .inl (fun _ => (0 : Int32)))), (q.2.2.2, .inl (cL, 41, .inr (.inl (fun _ => (0 : Int64)))))]) := by
  refine WM.ofG cX0_init 1 none (by decide +kernel) rfl (Nat.le_of_ble_eq_true rfl) ?_
  intro p e s m below meth c A hA B hr hlocks hname hK hN
  refine g_aload_n B dX0_init_0 0 rfl ?_
  refine g_objInit B (List.mem_of_getElem? (i := 1) rfl) (List.mem_of_getElem? (i := 2) rfl) (List.mem_of_getElem? (i := 3) rfl) (by decide) (by decide) dX0_init_1 ?_
  refine g_aload_n B dX0_init_4 0 rfl ?_
  refine g_bipush (v := (41 : Int32)) B dX0_init_5 (by decide) ?_
  refine g_newa B hK hA 0 rfl rfl (List.mem_of_getElem? (i := 4) rfl) rfl (41, .inl (fun _ => (0 : Int32))) (cellI_new 41) (by decide) (by decide) (by decide) (by decide) (by decide) dX0_init_7 (fun q1 => ?_)
  refine g_eqw (w2 := [(ha, .inr (0, [.null, .null, .null, .null, .int (0 : Int32), .long (0 : Int64)])), (q1, .inl (cI, 41, .inl (fun _ => (0 : Int32))))]) rfl ?_
  refine g_putF (C := RX0) (T := TX0) (N := 6) (ci := 0) B hK hin_X0_init_RX0 0 rfl rfl 0 (by decide) tyX0 tyX0_ok nmX0 (List.mem_of_getElem? (i := 5) rfl) rfl rfl hname rfl (ty := .array .int) (v := .ref q1) (by decide +kernel) rfl rfl (Nat.le_of_ble_eq_true rfl) (w2 := [(ha, .inr (0, [.ref q1, .null, .null, .null, .int (0 : Int32), .long (0 : Int64)])), (q1, .inl (cI, 41, .inl (fun _ => (0 : Int32))))]) rfl (fun _ h => h) dX0_init_9 ?_
  refine g_aload_n B dX0_init_12 0 rfl ?_
  refine g_bipush (v := (41 : Int32)) B dX0_init_13 (by decide) ?_
  refine g_newa B hK hA 0 rfl rfl (List.mem_of_getElem? (i := 4) rfl) rfl (41, .inl (fun _ => (0 : Int32))) (cellI_new 41) (by decide) (by decide) (by decide) (by decide) (by decide) dX0_init_15 (fun q2 => ?_)
  refine g_eqw (w2 := [(ha, .inr (0, [.ref q1, .null, .null, .null, .int (0 : Int32), .long (0 : Int64)])), (q1, .inl (cI, 41, .inl (fun _ => (0 : Int32)))), (q2, .inl (cI, 41, .inl (fun _ => (0 : Int32))))]) rfl ?_
  refine g_putF (C := RX0) (T := TX0) (N := 6) (ci := 0) B hK hin_X0_init_RX0 0 rfl rfl 1 (by decide) tyX0 tyX0_ok nmX0 (List.mem_of_getElem? (i := 6) rfl) rfl rfl hname rfl (ty := .array .int) (v := .ref q2) (by decide +kernel) rfl rfl (Nat.le_of_ble_eq_true rfl) (w2 := [(ha, .inr (0, [.ref q1, .ref q2, .null, .null, .int (0 : Int32), .long (0 : Int64)])), (q1, .inl (cI, 41, .inl (fun _ => (0 : Int32)))), (q2, .inl (cI, 41, .inl (fun _ => (0 : Int32))))]) rfl (fun _ h => h) dX0_init_17 ?_
  refine g_aload_n B dX0_init_20 0 rfl ?_
  refine g_bipush (v := (41 : Int32)) B dX0_init_21 (by decide) ?_
  refine g_newa B hK hA 0 rfl rfl (List.mem_of_getElem? (i := 4) rfl) rfl (41, .inl (fun _ => (0 : Int32))) (cellI_new 41) (by decide) (by decide) (by decide) (by decide) (by decide) dX0_init_23 (fun q3 => ?_)
  refine g_eqw (w2 := [(ha, .inr (0, [.ref q1, .ref q2, .null, .null, .int (0 : Int32), .long (0 : Int64)])), (q1, .inl (cI, 41, .inl (fun _ => (0 : Int32)))), (q2, .inl (cI, 41, .inl (fun _ => (0 : Int32)))), (q3, .inl (cI, 41, .inl (fun _ => (0 : Int32))))]) rfl ?_
  refine g_putF (C := RX0) (T := TX0) (N := 6) (ci := 0) B hK hin_X0_init_RX0 0 rfl rfl 2 (by decide) tyX0 tyX0_ok nmX0 (List.mem_of_getElem? (i := 7) rfl) rfl rfl hname rfl (ty := .array .int) (v := .ref q3) (by decide +kernel) rfl rfl (Nat.le_of_ble_eq_true rfl) (w2 := [(ha, .inr (0, [.ref q1, .ref q2, .ref q3, .null, .int (0 : Int32), .long (0 : Int64)])), (q1, .inl (cI, 41, .inl (fun _ => (0 : Int32)))), (q2, .inl (cI, 41, .inl (fun _ => (0 : Int32)))), (q3, .inl (cI, 41, .inl (fun _ => (0 : Int32))))]) rfl (fun _ h => h) dX0_init_25 ?_
  refine g_aload_n B dX0_init_28 0 rfl ?_
  refine g_bipush (v := (41 : Int32)) B dX0_init_29 (by decide) ?_
  refine g_newa B hK hA 1 rfl rfl (List.mem_of_getElem? (i := 8) rfl) rfl (41, .inr (.inl (fun _ => (0 : Int64)))) (cellL_new 41) (by decide) (by decide) (by decide) (by decide) (by decide) dX0_init_31 (fun q4 => ?_)
  refine g_eqw (w2 := [(ha, .inr (0, [.ref q1, .ref q2, .ref q3, .null, .int (0 : Int32), .long (0 : Int64)])), (q1, .inl (cI, 41, .inl (fun _ => (0 : Int32)))), (q2, .inl (cI, 41, .inl (fun _ => (0 : Int32)))), (q3, .inl (cI, 41, .inl (fun _ => (0 : Int32)))), (q4, .inl (cL, 41, .inr (.inl (fun _ => (0 : Int64)))))]) rfl ?_
  refine g_putF (C := RX0) (T := TX0) (N := 6) (ci := 0) B hK hin_X0_init_RX0 0 rfl rfl 3 (by decide) tyX0 tyX0_ok nmX0 (List.mem_of_getElem? (i := 9) rfl) rfl rfl hname rfl (ty := .array .long) (v := .ref q4) (by decide +kernel) rfl rfl (Nat.le_of_ble_eq_true rfl) (w2 := [(ha, .inr (0, [.ref q1, .ref q2, .ref q3, .ref q4, .int (0 : Int32), .long (0 : Int64)])), (q1, .inl (cI, 41, .inl (fun _ => (0 : Int32)))), (q2, .inl (cI, 41, .inl (fun _ => (0 : Int32)))), (q3, .inl (cI, 41, .inl (fun _ => (0 : Int32)))), (q4, .inl (cL, 41, .inr (.inl (fun _ => (0 : Int64)))))]) rfl (fun _ h => h) dX0_init_33 ?_
  refine g_widen (k := 4) (n := 164) (by (try dsimp only); omega) (by (try dsimp only); omega) ?_
  exact g_vret_w B hr hlocks (q1, q2, q3, q4) (rfl) (trivial) [0, 1, 2, 3, 4] (by decide) rfl dX0_init_36

set_option maxHeartbeats 4000000 in
set_option maxRecDepth 100000 in
theorem k_3_init (l : Launch) {D : va_G} {cI cL cZ : ClassId} (hq : Nat)  : WM l yX3_init wsX3_init ({ frames := 1, cells := 3, slots := 18, locals := 20 } : Room) D (gTys cI cL cZ) [.ref hq] [(hq, .inr (3, [.null, .null, .null, .int (0 : Int32)]))] (fun (q : Nat × Nat × Nat) => True) (fun (q : Nat × Nat × Nat) => none) (fun (q : Nat × Nat × Nat) => [(hq, .inr (3, [.ref q.1, .ref q.2.1, .ref q.2.2, .int (0 : Int32)])), (q.1, .inl (cI, 6, .inl (fun _ => (0 : Int32)))), (q.2.1, .inl (cI, 6, .inl (fun _ => (0 : Int32)))), (q.2.2, .inl (cI, 6, .inl (fun _ => (0 : Int32))))]) := by
  refine WM.ofG cX3_init 1 none (by decide +kernel) rfl (Nat.le_of_ble_eq_true rfl) ?_
  intro p e s m below meth c A hA B hr hlocks hname hK hN
  refine g_aload_n B dX3_init_0 0 rfl ?_
  refine g_objInit B (List.mem_of_getElem? (i := 1) rfl) (List.mem_of_getElem? (i := 2) rfl) (List.mem_of_getElem? (i := 3) rfl) (by decide) (by decide) dX3_init_1 ?_
  refine g_aload_n B dX3_init_4 0 rfl ?_
  refine g_bipush (v := (6 : Int32)) B dX3_init_5 (by decide) ?_
  refine g_newa B hK hA 0 rfl rfl (List.mem_of_getElem? (i := 4) rfl) rfl (6, .inl (fun _ => (0 : Int32))) (cellI_new 6) (by decide) (by decide) (by decide) (by decide) (by decide) dX3_init_7 (fun q1 => ?_)
  refine g_eqw (w2 := [(hq, .inr (3, [.null, .null, .null, .int (0 : Int32)])), (q1, .inl (cI, 6, .inl (fun _ => (0 : Int32))))]) rfl ?_
  refine g_putF (C := RX3) (T := TX3) (N := 4) (ci := 3) B hK hin_X3_init_RX3 0 rfl rfl 0 (by decide) tyX3 tyX3_ok nmX3 (List.mem_of_getElem? (i := 5) rfl) rfl rfl hname rfl (ty := .array .int) (v := .ref q1) (by decide +kernel) rfl rfl (Nat.le_of_ble_eq_true rfl) (w2 := [(hq, .inr (3, [.ref q1, .null, .null, .int (0 : Int32)])), (q1, .inl (cI, 6, .inl (fun _ => (0 : Int32))))]) rfl (fun _ h => h) dX3_init_9 ?_
  refine g_aload_n B dX3_init_12 0 rfl ?_
  refine g_bipush (v := (6 : Int32)) B dX3_init_13 (by decide) ?_
  refine g_newa B hK hA 0 rfl rfl (List.mem_of_getElem? (i := 4) rfl) rfl (6, .inl (fun _ => (0 : Int32))) (cellI_new 6) (by decide) (by decide) (by decide) (by decide) (by decide) dX3_init_15 (fun q2 => ?_)
  refine g_eqw (w2 := [(hq, .inr (3, [.ref q1, .null, .null, .int (0 : Int32)])), (q1, .inl (cI, 6, .inl (fun _ => (0 : Int32)))), (q2, .inl (cI, 6, .inl (fun _ => (0 : Int32))))]) rfl ?_
  refine g_putF (C := RX3) (T := TX3) (N := 4) (ci := 3) B hK hin_X3_init_RX3 0 rfl rfl 1 (by decide) tyX3 tyX3_ok nmX3 (List.mem_of_getElem? (i := 6) rfl) rfl rfl hname rfl (ty := .array .int) (v := .ref q2) (by decide +kernel) rfl rfl (Nat.le_of_ble_eq_true rfl) (w2 := [(hq, .inr (3, [.ref q1, .ref q2, .null, .int (0 : Int32)])), (q1, .inl (cI, 6, .inl (fun _ => (0 : Int32)))), (q2, .inl (cI, 6, .inl (fun _ => (0 : Int32))))]) rfl (fun _ h => h) dX3_init_17 ?_
  refine g_aload_n B dX3_init_20 0 rfl ?_
  refine g_bipush (v := (6 : Int32)) B dX3_init_21 (by decide) ?_
  refine g_newa B hK hA 0 rfl rfl (List.mem_of_getElem? (i := 4) rfl) rfl (6, .inl (fun _ => (0 : Int32))) (cellI_new 6) (by decide) (by decide) (by decide) (by decide) (by decide) dX3_init_23 (fun q3 => ?_)
  refine g_eqw (w2 := [(hq, .inr (3, [.ref q1, .ref q2, .null, .int (0 : Int32)])), (q1, .inl (cI, 6, .inl (fun _ => (0 : Int32)))), (q2, .inl (cI, 6, .inl (fun _ => (0 : Int32)))), (q3, .inl (cI, 6, .inl (fun _ => (0 : Int32))))]) rfl ?_
  refine g_putF (C := RX3) (T := TX3) (N := 4) (ci := 3) B hK hin_X3_init_RX3 0 rfl rfl 2 (by decide) tyX3 tyX3_ok nmX3 (List.mem_of_getElem? (i := 7) rfl) rfl rfl hname rfl (ty := .array .int) (v := .ref q3) (by decide +kernel) rfl rfl (Nat.le_of_ble_eq_true rfl) (w2 := [(hq, .inr (3, [.ref q1, .ref q2, .ref q3, .int (0 : Int32)])), (q1, .inl (cI, 6, .inl (fun _ => (0 : Int32)))), (q2, .inl (cI, 6, .inl (fun _ => (0 : Int32)))), (q3, .inl (cI, 6, .inl (fun _ => (0 : Int32))))]) rfl (fun _ h => h) dX3_init_25 ?_
  refine g_widen (k := 3) (n := 18) (by (try dsimp only); omega) (by (try dsimp only); omega) ?_
  exact g_vret_w B hr hlocks (q1, q2, q3) (rfl) (trivial) [0, 1, 2, 3] (by decide) rfl dX3_init_28

set_option maxHeartbeats 4000000 in
set_option maxRecDepth 100000 in
theorem k_X5_init (l : Launch) {D : va_G} {cI cL cZ : ClassId} (hb : Nat)  : WM l yX5_init wsX5_init ({ frames := 2, cells := 21, slots := 319, locals := 43 } : Room) D (gTys cI cL cZ) [.ref hb] [(hb, .inr (5, [.null, .null, .null, .null, .null]))] (fun (q : Nat × Nat × Nat × Nat × Nat × Nat × Nat × Nat × Nat × Nat × Nat × Nat × Nat × Nat × Nat × Nat × Nat × Nat × Nat × Nat × Nat) => True) (fun (q : Nat × Nat × Nat × Nat × Nat × Nat × Nat × Nat × Nat × Nat × Nat × Nat × Nat × Nat × Nat × Nat × Nat × Nat × Nat × Nat × Nat) => none) (fun (q : Nat × Nat × Nat × Nat × Nat × Nat × Nat × Nat × Nat × Nat × Nat × Nat × Nat × Nat × Nat × Nat × Nat × Nat × Nat × Nat × Nat) => [(hb, .inr (5, [.ref q.1, .ref q.2.2.2.2.2.2.1, .ref q.2.2.2.2.2.2.2.2.1, .ref q.2.2.2.2.2.2.2.2.2.2.2.2.1, .ref q.2.2.2.2.2.2.2.2.2.2.2.2.2.2.2.2.2.1])), (q.1, .inr (2, [.ref q.2.1, .ref q.2.2.1, .ref q.2.2.2.1, .ref q.2.2.2.2.1, .ref q.2.2.2.2.2.1])), (q.2.1, .inl (cI, 12, .inl (fun _ => (0 : Int32)))), (q.2.2.1, .inl (cI, 12, .inl (fun _ => (0 : Int32)))), (q.2.2.2.1, .inl (cI, 12, .inl (fun _ => (0 : Int32)))), (q.2.2.2.2.1, .inl (cI, 24, .inl (fun _ => (-1 : Int32)))), (q.2.2.2.2.2.1, .inl (cZ, 12, .inl (fun _ => (0 : Int32)))), (q.2.2.2.2.2.2.1, .inr (4, [.ref q.2.2.2.2.2.2.2.1, .int (0 : Int32), .int (0 : Int32), .long (0 : Int64)])), (q.2.2.2.2.2.2.2.1, .inl (cI, 30, .inl (fun _ => (0 : Int32)))), (q.2.2.2.2.2.2.2.2.1, .inr (1, [.ref q.2.2.2.2.2.2.2.2.2.1, .ref q.2.2.2.2.2.2.2.2.2.2.1, .ref q.2.2.2.2.2.2.2.2.2.2.2.1, .int (1 : Int32)])), (q.2.2.2.2.2.2.2.2.2.1, .inl (cI, 4, .inl (fun _ => (1 : Int32)))), (q.2.2.2.2.2.2.2.2.2.2.1, .inl (cI, 4, .inl (fun _ => (1 : Int32)))), (q.2.2.2.2.2.2.2.2.2.2.2.1, .inl (cI, 4, .inl (fun _ => (1 : Int32)))), (q.2.2.2.2.2.2.2.2.2.2.2.2.1, .inr (0, [.ref q.2.2.2.2.2.2.2.2.2.2.2.2.2.1, .ref q.2.2.2.2.2.2.2.2.2.2.2.2.2.2.1, .ref q.2.2.2.2.2.2.2.2.2.2.2.2.2.2.2.1, .ref q.2.2.2.2.2.2.2.2.2.2.2.2.2.2.2.2.1, .int (0 : Int32), .long (0 : Int64)])), (q.2.2.2.2.2.2.2.2.2.2.2.2.2.1, .inl (cI, 41, .inl (fun _ => (0 : Int32)))), (q.2.2.2.2.2.2.2.2.2.2.2.2.2.2.1, .inl (cI, 41, .inl (fun _ => (0 : Int32)))), (q.2.2.2.2.2.2.2.2.2.2.2.2.2.2.2.1, .inl (cI, 41, .inl (fun _ => (0 : Int32)))), (q.2.2.2.2.2.2.2.2.2.2.2.2.2.2.2.2.1, .inl (cL, 41, .inr (.inl (fun _ => (0 : Int64))))), (q.2.2.2.2.2.2.2.2.2.2.2.2.2.2.2.2.2.1, .inr (3, [.ref q.2.2.2.2.2.2.2.2.2.2.2.2.2.2.2.2.2.2.1, .ref q.2.2.2.2.2.2.2.2.2.2.2.2.2.2.2.2.2.2.2.1, .ref q.2.2.2.2.2.2.2.2.2.2.2.2.2.2.2.2.2.2.2.2, .int (0 : Int32)])), (q.2.2.2.2.2.2.2.2.2.2.2.2.2.2.2.2.2.2.1, .inl (cI, 6, .inl (fun _ => (0 : Int32)))), (q.2.2.2.2.2.2.2.2.2.2.2.2.2.2.2.2.2.2.2.1, .inl (cI, 6, .inl (fun _ => (0 : Int32)))), (q.2.2.2.2.2.2.2.2.2.2.2.2.2.2.2.2.2.2.2.2, .inl (cI, 6, .inl (fun _ => (0 : Int32))))]) := by
  refine WM.ofG cX5_init 1 none (by decide +kernel) rfl (Nat.le_of_ble_eq_true rfl) ?_
  intro p e s m below meth c A hA B hr hlocks hname hK hN
  refine g_aload_n B dX5_init_0 0 rfl ?_
  refine g_objInit B (List.mem_of_getElem? (i := 1) rfl) (List.mem_of_getElem? (i := 2) rfl) (List.mem_of_getElem? (i := 3) rfl) (by decide) (by decide) dX5_init_1 ?_
  refine g_aload_n B dX5_init_4 0 rfl ?_
  refine g_new (C := RX2) (T := TX2) (N := 5) (ci := 2) B hK hA hin_X5_init_RX2 tyX2 tyX2_ok (List.mem_of_getElem? (i := 4) rfl) (List.mem_of_getElem? (i := 5) rfl) (List.mem_of_getElem? (i := 6) rfl) rfl [.null, .null, .null, .null, .null] (by decide) (by decide) (by decide) dX5_init_5 (fun q1 => ?_)
  refine g_eqw (w2 := [(hb, .inr (5, [.null, .null, .null, .null, .null])), (q1, .inr (2, [.null, .null, .null, .null, .null]))]) rfl ?_
  refine g_dup B dX5_init_8 rfl ?_
  refine g_callW (w2 := (fun (z9 : Nat × Nat × Nat × Nat × Nat) => [(hb, .inr (5, [.null, .null, .null, .null, .null])), (q1, .inr (2, [.ref z9.1, .ref z9.2.1, .ref z9.2.2.1, .ref z9.2.2.2.1, .ref z9.2.2.2.2])), (z9.1, .inl (cI, 12, .inl (fun _ => (0 : Int32)))), (z9.2.1, .inl (cI, 12, .inl (fun _ => (0 : Int32)))), (z9.2.2.1, .inl (cI, 12, .inl (fun _ => (0 : Int32)))), (z9.2.2.2.1, .inl (cI, 24, .inl (fun _ => (-1 : Int32)))), (z9.2.2.2.2, .inl (cZ, 12, .inl (fun _ => (0 : Int32))))])) (g_runI B (k_2_init l (D := D) (cI := cI) (cL := cL) (cZ := cZ) q1 ) (gPw.pre (av := [.ref q1]) (wc := [(q1, .inr (2, [.null, .null, .null, .null, .null]))]) hK hN [1] rfl (by decide)) gX5_init_X2_init (List.mem_of_getElem? (i := 6) rfl) (List.mem_of_getElem? (i := 24) rfl) (List.mem_of_getElem? (i := 25) rfl) rfl rfl kd_X2_init ⟨by decide, by decide⟩ (st := [.ref q1, .ref hb]) rfl (Nat.le_of_ble_eq_true rfl) dX5_init_9 ⟨by decide, by decide⟩) hA (fun _ h => h) [1] [0] (wr := [(hb, .inr (5, [.null, .null, .null, .null, .null]))]) rfl rfl (by decide) (by decide) [0, 1, 2, 3, 4, 5, 6] (by decide) (fun _ => rfl) (fun u hu => ?_)
  obtain ⟨p0_2, p1_2, p2_2, p3_2, p4_2⟩ := u
  try dsimp only at hu ⊢
  refine g_putF (C := RX5) (T := TX5) (N := 5) (ci := 5) B hK hin_X5_init_RX5 0 rfl rfl 0 (by decide) tyX5 tyX5_ok nmX5 (List.mem_of_getElem? (i := 7) rfl) rfl rfl hname rfl (ty := .object "TestkitchenBench$Program") (v := .ref q1) (by decide +kernel) rfl rfl (Nat.le_of_ble_eq_true rfl) (w2 := [(hb, .inr (5, [.ref q1, .null, .null, .null, .null])), (q1, .inr (2, [.ref p0_2, .ref p1_2, .ref p2_2, .ref p3_2, .ref p4_2])), (p0_2, .inl (cI, 12, .inl (fun _ => (0 : Int32)))), (p1_2, .inl (cI, 12, .inl (fun _ => (0 : Int32)))), (p2_2, .inl (cI, 12, .inl (fun _ => (0 : Int32)))), (p3_2, .inl (cI, 24, .inl (fun _ => (-1 : Int32)))), (p4_2, .inl (cZ, 12, .inl (fun _ => (0 : Int32))))]) rfl (fun _ h => h) dX5_init_12 ?_
  refine g_aload_n B dX5_init_15 0 rfl ?_
  refine g_new (C := RX4) (T := TX4) (N := 4) (ci := 4) B hK hA hin_X5_init_RX4 tyX4 tyX4_ok (List.mem_of_getElem? (i := 8) rfl) (List.mem_of_getElem? (i := 9) rfl) (List.mem_of_getElem? (i := 10) rfl) rfl [.null, .int (0 : Int32), .int (0 : Int32), .long (0 : Int64)] (by decide) (by decide) (by decide) dX5_init_16 (fun q3 => ?_)
  refine g_eqw (w2 := [(hb, .inr (5, [.ref q1, .null, .null, .null, .null])), (q1, .inr (2, [.ref p0_2, .ref p1_2, .ref p2_2, .ref p3_2, .ref p4_2])), (p0_2, .inl (cI, 12, .inl (fun _ => (0 : Int32)))), (p1_2, .inl (cI, 12, .inl (fun _ => (0 : Int32)))), (p2_2, .inl (cI, 12, .inl (fun _ => (0 : Int32)))), (p3_2, .inl (cI, 24, .inl (fun _ => (-1 : Int32)))), (p4_2, .inl (cZ, 12, .inl (fun _ => (0 : Int32)))), (q3, .inr (4, [.null, .int (0 : Int32), .int (0 : Int32), .long (0 : Int64)]))]) rfl ?_
  refine g_dup B dX5_init_19 rfl ?_
  refine g_callW (w2 := (fun (t0_4 : Nat) => [(hb, .inr (5, [.ref q1, .null, .null, .null, .null])), (q1, .inr (2, [.ref p0_2, .ref p1_2, .ref p2_2, .ref p3_2, .ref p4_2])), (p0_2, .inl (cI, 12, .inl (fun _ => (0 : Int32)))), (p1_2, .inl (cI, 12, .inl (fun _ => (0 : Int32)))), (p2_2, .inl (cI, 12, .inl (fun _ => (0 : Int32)))), (p3_2, .inl (cI, 24, .inl (fun _ => (-1 : Int32)))), (p4_2, .inl (cZ, 12, .inl (fun _ => (0 : Int32)))), (q3, .inr (4, [.ref t0_4, .int (0 : Int32), .int (0 : Int32), .long (0 : Int64)])), (t0_4, .inl (cI, 30, .inl (fun _ => (0 : Int32))))])) (g_runIN B hN (k_4_init l (D := D) (cI := cI) (cL := cL) (cZ := cZ) q3 ) (gPw.pre (av := [.ref q3]) (wc := [(q3, .inr (4, [.null, .int (0 : Int32), .int (0 : Int32), .long (0 : Int64)]))]) hK hN [7] rfl (by decide)) gX5_init_X4_init_n18 (List.mem_of_getElem? (i := 10) rfl) 0 rfl (List.mem_of_getElem? (i := 39) rfl) rfl rfl kd_X4_init ⟨by decide, by decide⟩ (st := [.ref q3, .ref hb]) rfl (Nat.le_of_ble_eq_true rfl) dX5_init_20 ⟨by decide, by decide⟩) hA (fun _ h => h) [7] [0, 1, 2, 3, 4, 5, 6] (wr := [(hb, .inr (5, [.ref q1, .null, .null, .null, .null])), (q1, .inr (2, [.ref p0_2, .ref p1_2, .ref p2_2, .ref p3_2, .ref p4_2])), (p0_2, .inl (cI, 12, .inl (fun _ => (0 : Int32)))), (p1_2, .inl (cI, 12, .inl (fun _ => (0 : Int32)))), (p2_2, .inl (cI, 12, .inl (fun _ => (0 : Int32)))), (p3_2, .inl (cI, 24, .inl (fun _ => (-1 : Int32)))), (p4_2, .inl (cZ, 12, .inl (fun _ => (0 : Int32))))]) rfl rfl (by decide) (by decide) [0, 1, 2, 3, 4, 5, 6, 7, 8] (by decide) (fun _ => rfl) (fun u hu => ?_)
  obtain ⟨t0_4, e9⟩ : ∃ z, z = u := ⟨_, rfl⟩; subst e9
  try dsimp only at hu ⊢
  refine g_putF (C := RX5) (T := TX5) (N := 5) (ci := 5) B hK hin_X5_init_RX5 0 rfl rfl 1 (by decide) tyX5 tyX5_ok nmX5 (List.mem_of_getElem? (i := 11) rfl) rfl rfl hname rfl (ty := .object "TestkitchenBench$Trace") (v := .ref q3) (by decide +kernel) rfl rfl (Nat.le_of_ble_eq_true rfl) (w2 := [(hb, .inr (5, [.ref q1, .ref q3, .null, .null, .null])), (q1, .inr (2, [.ref p0_2, .ref p1_2, .ref p2_2, .ref p3_2, .ref p4_2])), (p0_2, .inl (cI, 12, .inl (fun _ => (0 : Int32)))), (p1_2, .inl (cI, 12, .inl (fun _ => (0 : Int32)))), (p2_2, .inl (cI, 12, .inl (fun _ => (0 : Int32)))), (p3_2, .inl (cI, 24, .inl (fun _ => (-1 : Int32)))), (p4_2, .inl (cZ, 12, .inl (fun _ => (0 : Int32)))), (q3, .inr (4, [.ref t0_4, .int (0 : Int32), .int (0 : Int32), .long (0 : Int64)])), (t0_4, .inl (cI, 30, .inl (fun _ => (0 : Int32))))]) rfl (fun _ h => h) dX5_init_23 ?_
  refine g_aload_n B dX5_init_26 0 rfl ?_
  refine g_new (C := RX1) (T := TX1) (N := 4) (ci := 1) B hK hA hin_X5_init_RX1 tyX1 tyX1_ok (List.mem_of_getElem? (i := 12) rfl) (List.mem_of_getElem? (i := 13) rfl) (List.mem_of_getElem? (i := 14) rfl) rfl [.null, .null, .null, .int (0 : Int32)] (by decide) (by decide) (by decide) dX5_init_27 (fun q5 => ?_)
  refine g_eqw (w2 := [(hb, .inr (5, [.ref q1, .ref q3, .null, .null, .null])), (q1, .inr (2, [.ref p0_2, .ref p1_2, .ref p2_2, .ref p3_2, .ref p4_2])), (p0_2, .inl (cI, 12, .inl (fun _ => (0 : Int32)))), (p1_2, .inl (cI, 12, .inl (fun _ => (0 : Int32)))), (p2_2, .inl (cI, 12, .inl (fun _ => (0 : Int32)))), (p3_2, .inl (cI, 24, .inl (fun _ => (-1 : Int32)))), (p4_2, .inl (cZ, 12, .inl (fun _ => (0 : Int32)))), (q3, .inr (4, [.ref t0_4, .int (0 : Int32), .int (0 : Int32), .long (0 : Int64)])), (t0_4, .inl (cI, 30, .inl (fun _ => (0 : Int32)))), (q5, .inr (1, [.null, .null, .null, .int (0 : Int32)]))]) rfl ?_
  refine g_dup B dX5_init_30 rfl ?_
  refine g_callW (w2 := (fun (z9 : Nat × Nat × Nat) => [(hb, .inr (5, [.ref q1, .ref q3, .null, .null, .null])), (q1, .inr (2, [.ref p0_2, .ref p1_2, .ref p2_2, .ref p3_2, .ref p4_2])), (p0_2, .inl (cI, 12, .inl (fun _ => (0 : Int32)))), (p1_2, .inl (cI, 12, .inl (fun _ => (0 : Int32)))), (p2_2, .inl (cI, 12, .inl (fun _ => (0 : Int32)))), (p3_2, .inl (cI, 24, .inl (fun _ => (-1 : Int32)))), (p4_2, .inl (cZ, 12, .inl (fun _ => (0 : Int32)))), (q3, .inr (4, [.ref t0_4, .int (0 : Int32), .int (0 : Int32), .long (0 : Int64)])), (t0_4, .inl (cI, 30, .inl (fun _ => (0 : Int32)))), (q5, .inr (1, [.ref z9.1, .ref z9.2.1, .ref z9.2.2, .int (1 : Int32)])), (z9.1, .inl (cI, 4, .inl (fun _ => (1 : Int32)))), (z9.2.1, .inl (cI, 4, .inl (fun _ => (1 : Int32)))), (z9.2.2, .inl (cI, 4, .inl (fun _ => (1 : Int32))))])) (g_runI B (k_1_init l (D := D) (cI := cI) (cL := cL) (cZ := cZ) q5 ) (gPw.pre (av := [.ref q5]) (wc := [(q5, .inr (1, [.null, .null, .null, .int (0 : Int32)]))]) hK hN [9] rfl (by decide)) gX5_init_X1_init (List.mem_of_getElem? (i := 14) rfl) (List.mem_of_getElem? (i := 43) rfl) (List.mem_of_getElem? (i := 44) rfl) rfl rfl kd_X1_init ⟨by decide, by decide⟩ (st := [.ref q5, .ref hb]) rfl (Nat.le_of_ble_eq_true rfl) dX5_init_31 ⟨by decide, by decide⟩) hA (fun _ h => h) [9] [0, 1, 2, 3, 4, 5, 6, 7, 8] (wr := [(hb, .inr (5, [.ref q1, .ref q3, .null, .null, .null])), (q1, .inr (2, [.ref p0_2, .ref p1_2, .ref p2_2, .ref p3_2, .ref p4_2])), (p0_2, .inl (cI, 12, .inl (fun _ => (0 : Int32)))), (p1_2, .inl (cI, 12, .inl (fun _ => (0 : Int32)))), (p2_2, .inl (cI, 12, .inl (fun _ => (0 : Int32)))), (p3_2, .inl (cI, 24, .inl (fun _ => (-1 : Int32)))), (p4_2, .inl (cZ, 12, .inl (fun _ => (0 : Int32)))), (q3, .inr (4, [.ref t0_4, .int (0 : Int32), .int (0 : Int32), .long (0 : Int64)])), (t0_4, .inl (cI, 30, .inl (fun _ => (0 : Int32))))]) rfl rfl (by decide) (by decide) [0, 1, 2, 3, 4, 5, 6, 7, 8, 9, 10, 11, 12] (by decide) (fun _ => rfl) (fun u hu => ?_)
  obtain ⟨g0_6, g1_6, g2_6⟩ := u
  try dsimp only at hu ⊢
  refine g_putF (C := RX5) (T := TX5) (N := 5) (ci := 5) B hK hin_X5_init_RX5 0 rfl rfl 2 (by decide) tyX5 tyX5_ok nmX5 (List.mem_of_getElem? (i := 15) rfl) rfl rfl hname rfl (ty := .object "TestkitchenBench$Generator") (v := .ref q5) (by decide +kernel) rfl rfl (Nat.le_of_ble_eq_true rfl) (w2 := [(hb, .inr (5, [.ref q1, .ref q3, .ref q5, .null, .null])), (q1, .inr (2, [.ref p0_2, .ref p1_2, .ref p2_2, .ref p3_2, .ref p4_2])), (p0_2, .inl (cI, 12, .inl (fun _ => (0 : Int32)))), (p1_2, .inl (cI, 12, .inl (fun _ => (0 : Int32)))), (p2_2, .inl (cI, 12, .inl (fun _ => (0 : Int32)))), (p3_2, .inl (cI, 24, .inl (fun _ => (-1 : Int32)))), (p4_2, .inl (cZ, 12, .inl (fun _ => (0 : Int32)))), (q3, .inr (4, [.ref t0_4, .int (0 : Int32), .int (0 : Int32), .long (0 : Int64)])), (t0_4, .inl (cI, 30, .inl (fun _ => (0 : Int32)))), (q5, .inr (1, [.ref g0_6, .ref g1_6, .ref g2_6, .int (1 : Int32)])), (g0_6, .inl (cI, 4, .inl (fun _ => (1 : Int32)))), (g1_6, .inl (cI, 4, .inl (fun _ => (1 : Int32)))), (g2_6, .inl (cI, 4, .inl (fun _ => (1 : Int32))))]) rfl (fun _ h => h) dX5_init_34 ?_
  refine g_aload_n B dX5_init_37 0 rfl ?_
  refine g_new (C := RX0) (T := TX0) (N := 6) (ci := 0) B hK hA hin_X5_init_RX0 tyX0 tyX0_ok (List.mem_of_getElem? (i := 16) rfl) (List.mem_of_getElem? (i := 17) rfl) (List.mem_of_getElem? (i := 18) rfl) rfl [.null, .null, .null, .null, .int (0 : Int32), .long (0 : Int64)] (by decide) (by decide) (by decide) dX5_init_38 (fun q7 => ?_)
  refine g_eqw (w2 := [(hb, .inr (5, [.ref q1, .ref q3, .ref q5, .null, .null])), (q1, .inr (2, [.ref p0_2, .ref p1_2, .ref p2_2, .ref p3_2, .ref p4_2])), (p0_2, .inl (cI, 12, .inl (fun _ => (0 : Int32)))), (p1_2, .inl (cI, 12, .inl (fun _ => (0 : Int32)))), (p2_2, .inl (cI, 12, .inl (fun _ => (0 : Int32)))), (p3_2, .inl (cI, 24, .inl (fun _ => (-1 : Int32)))), (p4_2, .inl (cZ, 12, .inl (fun _ => (0 : Int32)))), (q3, .inr (4, [.ref t0_4, .int (0 : Int32), .int (0 : Int32), .long (0 : Int64)])), (t0_4, .inl (cI, 30, .inl (fun _ => (0 : Int32)))), (q5, .inr (1, [.ref g0_6, .ref g1_6, .ref g2_6, .int (1 : Int32)])), (g0_6, .inl (cI, 4, .inl (fun _ => (1 : Int32)))), (g1_6, .inl (cI, 4, .inl (fun _ => (1 : Int32)))), (g2_6, .inl (cI, 4, .inl (fun _ => (1 : Int32)))), (q7, .inr (0, [.null, .null, .null, .null, .int (0 : Int32), .long (0 : Int64)]))]) rfl ?_
  refine g_dup B dX5_init_41 rfl ?_
  refine g_callW (w2 := (fun (z9 : Nat × Nat × Nat × Nat) => [(hb, .inr (5, [.ref q1, .ref q3, .ref q5, .null, .null])), (q1, .inr (2, [.ref p0_2, .ref p1_2, .ref p2_2, .ref p3_2, .ref p4_2])), (p0_2, .inl (cI, 12, .inl (fun _ => (0 : Int32)))), (p1_2, .inl (cI, 12, .inl (fun _ => (0 : Int32)))), (p2_2, .inl (cI, 12, .inl (fun _ => (0 : Int32)))), (p3_2, .inl (cI, 24, .inl (fun _ => (-1 : Int32)))), (p4_2, .inl (cZ, 12, .inl (fun _ => (0 : Int32)))), (q3, .inr (4, [.ref t0_4, .int (0 : Int32), .int (0 : Int32), .long (0 : Int64)])), (t0_4, .inl (cI, 30, .inl (fun _ => (0 : Int32)))), (q5, .inr (1, [.ref g0_6, .ref g1_6, .ref g2_6, .int (1 : Int32)])), (g0_6, .inl (cI, 4, .inl (fun _ => (1 : Int32)))), (g1_6, .inl (cI, 4, .inl (fun _ => (1 : Int32)))), (g2_6, .inl (cI, 4, .inl (fun _ => (1 : Int32)))), (q7, .inr (0, [.ref z9.1, .ref z9.2.1, .ref z9.2.2.1, .ref z9.2.2.2, .int (0 : Int32), .long (0 : Int64)])), (z9.1, .inl (cI, 41, .inl (fun _ => (0 : Int32)))), (z9.2.1, .inl (cI, 41, .inl (fun _ => (0 : Int32)))), (z9.2.2.1, .inl (cI, 41, .inl (fun _ => (0 : Int32)))), (z9.2.2.2, .inl (cL, 41, .inr (.inl (fun _ => (0 : Int64)))))])) (g_runIN B hN (k_0_init l (D := D) (cI := cI) (cL := cL) (cZ := cZ) q7 ) (gPw.pre (av := [.ref q7]) (wc := [(q7, .inr (0, [.null, .null, .null, .null, .int (0 : Int32), .long (0 : Int64)]))]) hK hN [13] rfl (by decide)) gX5_init_X0_init_n32 (List.mem_of_getElem? (i := 18) rfl) 1 rfl (List.mem_of_getElem? (i := 52) rfl) rfl rfl kd_X0_init ⟨by decide, by decide⟩ (st := [.ref q7, .ref hb]) rfl (Nat.le_of_ble_eq_true rfl) dX5_init_42 ⟨by decide, by decide⟩) hA (fun _ h => h) [13] [0, 1, 2, 3, 4, 5, 6, 7, 8, 9, 10, 11, 12] (wr := [(hb, .inr (5, [.ref q1, .ref q3, .ref q5, .null, .null])), (q1, .inr (2, [.ref p0_2, .ref p1_2, .ref p2_2, .ref p3_2, .ref p4_2])), (p0_2, .inl (cI, 12, .inl (fun _ => (0 : Int32)))), (p1_2, .inl (cI, 12, .inl (fun _ => (0 : Int32)))), (p2_2, .inl (cI, 12, .inl (fun _ => (0 : Int32)))), (p3_2, .inl (cI, 24, .inl (fun _ => (-1 : Int32)))), (p4_2, .inl (cZ, 12, .inl (fun _ => (0 : Int32)))), (q3, .inr (4, [.ref t0_4, .int (0 : Int32), .int (0 : Int32), .long (0 : Int64)])), (t0_4, .inl (cI, 30, .inl (fun _ => (0 : Int32)))), (q5, .inr (1, [.ref g0_6, .ref g1_6, .ref g2_6, .int (1 : Int32)])), (g0_6, .inl (cI, 4, .inl (fun _ => (1 : Int32)))), (g1_6, .inl (cI, 4, .inl (fun _ => (1 : Int32)))), (g2_6, .inl (cI, 4, .inl (fun _ => (1 : Int32))))]) rfl rfl (by decide) (by decide) [0, 1, 2, 3, 4, 5, 6, 7, 8, 9, 10, 11, 12, 13, 14, 15, 16, 17] (by decide) (fun _ => rfl) (fun u hu => ?_)
  obtain ⟨a0_8, a1_8, a2_8, a3_8⟩ := u
  try dsimp only at hu ⊢
  refine g_putF (C := RX5) (T := TX5) (N := 5) (ci := 5) B hK hin_X5_init_RX5 0 rfl rfl 3 (by decide) tyX5 tyX5_ok nmX5 (List.mem_of_getElem? (i := 19) rfl) rfl rfl hname rfl (ty := .object "TestkitchenBench$Archive") (v := .ref q7) (by decide +kernel) rfl rfl (Nat.le_of_ble_eq_true rfl) (w2 := [(hb, .inr (5, [.ref q1, .ref q3, .ref q5, .ref q7, .null])), (q1, .inr (2, [.ref p0_2, .ref p1_2, .ref p2_2, .ref p3_2, .ref p4_2])), (p0_2, .inl (cI, 12, .inl (fun _ => (0 : Int32)))), (p1_2, .inl (cI, 12, .inl (fun _ => (0 : Int32)))), (p2_2, .inl (cI, 12, .inl (fun _ => (0 : Int32)))), (p3_2, .inl (cI, 24, .inl (fun _ => (-1 : Int32)))), (p4_2, .inl (cZ, 12, .inl (fun _ => (0 : Int32)))), (q3, .inr (4, [.ref t0_4, .int (0 : Int32), .int (0 : Int32), .long (0 : Int64)])), (t0_4, .inl (cI, 30, .inl (fun _ => (0 : Int32)))), (q5, .inr (1, [.ref g0_6, .ref g1_6, .ref g2_6, .int (1 : Int32)])), (g0_6, .inl (cI, 4, .inl (fun _ => (1 : Int32)))), (g1_6, .inl (cI, 4, .inl (fun _ => (1 : Int32)))), (g2_6, .inl (cI, 4, .inl (fun _ => (1 : Int32)))), (q7, .inr (0, [.ref a0_8, .ref a1_8, .ref a2_8, .ref a3_8, .int (0 : Int32), .long (0 : Int64)])), (a0_8, .inl (cI, 41, .inl (fun _ => (0 : Int32)))), (a1_8, .inl (cI, 41, .inl (fun _ => (0 : Int32)))), (a2_8, .inl (cI, 41, .inl (fun _ => (0 : Int32)))), (a3_8, .inl (cL, 41, .inr (.inl (fun _ => (0 : Int64)))))]) rfl (fun _ h => h) dX5_init_45 ?_
  refine g_aload_n B dX5_init_48 0 rfl ?_
  refine g_new (C := RX3) (T := TX3) (N := 4) (ci := 3) B hK hA hin_X5_init_RX3 tyX3 tyX3_ok (List.mem_of_getElem? (i := 20) rfl) (List.mem_of_getElem? (i := 21) rfl) (List.mem_of_getElem? (i := 22) rfl) rfl [.null, .null, .null, .int (0 : Int32)] (by decide) (by decide) (by decide) dX5_init_49 (fun q9 => ?_)
  refine g_eqw (w2 := [(hb, .inr (5, [.ref q1, .ref q3, .ref q5, .ref q7, .null])), (q1, .inr (2, [.ref p0_2, .ref p1_2, .ref p2_2, .ref p3_2, .ref p4_2])), (p0_2, .inl (cI, 12, .inl (fun _ => (0 : Int32)))), (p1_2, .inl (cI, 12, .inl (fun _ => (0 : Int32)))), (p2_2, .inl (cI, 12, .inl (fun _ => (0 : Int32)))), (p3_2, .inl (cI, 24, .inl (fun _ => (-1 : Int32)))), (p4_2, .inl (cZ, 12, .inl (fun _ => (0 : Int32)))), (q3, .inr (4, [.ref t0_4, .int (0 : Int32), .int (0 : Int32), .long (0 : Int64)])), (t0_4, .inl (cI, 30, .inl (fun _ => (0 : Int32)))), (q5, .inr (1, [.ref g0_6, .ref g1_6, .ref g2_6, .int (1 : Int32)])), (g0_6, .inl (cI, 4, .inl (fun _ => (1 : Int32)))), (g1_6, .inl (cI, 4, .inl (fun _ => (1 : Int32)))), (g2_6, .inl (cI, 4, .inl (fun _ => (1 : Int32)))), (q7, .inr (0, [.ref a0_8, .ref a1_8, .ref a2_8, .ref a3_8, .int (0 : Int32), .long (0 : Int64)])), (a0_8, .inl (cI, 41, .inl (fun _ => (0 : Int32)))), (a1_8, .inl (cI, 41, .inl (fun _ => (0 : Int32)))), (a2_8, .inl (cI, 41, .inl (fun _ => (0 : Int32)))), (a3_8, .inl (cL, 41, .inr (.inl (fun _ => (0 : Int64))))), (q9, .inr (3, [.null, .null, .null, .int (0 : Int32)]))]) rfl ?_
  refine g_dup B dX5_init_52 rfl ?_
  refine g_callW (w2 := (fun (z9 : Nat × Nat × Nat) => [(hb, .inr (5, [.ref q1, .ref q3, .ref q5, .ref q7, .null])), (q1, .inr (2, [.ref p0_2, .ref p1_2, .ref p2_2, .ref p3_2, .ref p4_2])), (p0_2, .inl (cI, 12, .inl (fun _ => (0 : Int32)))), (p1_2, .inl (cI, 12, .inl (fun _ => (0 : Int32)))), (p2_2, .inl (cI, 12, .inl (fun _ => (0 : Int32)))), (p3_2, .inl (cI, 24, .inl (fun _ => (-1 : Int32)))), (p4_2, .inl (cZ, 12, .inl (fun _ => (0 : Int32)))), (q3, .inr (4, [.ref t0_4, .int (0 : Int32), .int (0 : Int32), .long (0 : Int64)])), (t0_4, .inl (cI, 30, .inl (fun _ => (0 : Int32)))), (q5, .inr (1, [.ref g0_6, .ref g1_6, .ref g2_6, .int (1 : Int32)])), (g0_6, .inl (cI, 4, .inl (fun _ => (1 : Int32)))), (g1_6, .inl (cI, 4, .inl (fun _ => (1 : Int32)))), (g2_6, .inl (cI, 4, .inl (fun _ => (1 : Int32)))), (q7, .inr (0, [.ref a0_8, .ref a1_8, .ref a2_8, .ref a3_8, .int (0 : Int32), .long (0 : Int64)])), (a0_8, .inl (cI, 41, .inl (fun _ => (0 : Int32)))), (a1_8, .inl (cI, 41, .inl (fun _ => (0 : Int32)))), (a2_8, .inl (cI, 41, .inl (fun _ => (0 : Int32)))), (a3_8, .inl (cL, 41, .inr (.inl (fun _ => (0 : Int64))))), (q9, .inr (3, [.ref z9.1, .ref z9.2.1, .ref z9.2.2, .int (0 : Int32)])), (z9.1, .inl (cI, 6, .inl (fun _ => (0 : Int32)))), (z9.2.1, .inl (cI, 6, .inl (fun _ => (0 : Int32)))), (z9.2.2, .inl (cI, 6, .inl (fun _ => (0 : Int32))))])) (g_runIN B hN (k_3_init l (D := D) (cI := cI) (cL := cL) (cZ := cZ) q9 ) (gPw.pre (av := [.ref q9]) (wc := [(q9, .inr (3, [.null, .null, .null, .int (0 : Int32)]))]) hK hN [18] rfl (by decide)) gX5_init_X3_init_n39 (List.mem_of_getElem? (i := 22) rfl) 2 rfl (List.mem_of_getElem? (i := 60) rfl) rfl rfl kd_X3_init ⟨by decide, by decide⟩ (st := [.ref q9, .ref hb]) rfl (Nat.le_of_ble_eq_true rfl) dX5_init_53 ⟨by decide, by decide⟩) hA (fun _ h => h) [18] [0, 1, 2, 3, 4, 5, 6, 7, 8, 9, 10, 11, 12, 13, 14, 15, 16, 17] (wr := [(hb, .inr (5, [.ref q1, .ref q3, .ref q5, .ref q7, .null])), (q1, .inr (2, [.ref p0_2, .ref p1_2, .ref p2_2, .ref p3_2, .ref p4_2])), (p0_2, .inl (cI, 12, .inl (fun _ => (0 : Int32)))), (p1_2, .inl (cI, 12, .inl (fun _ => (0 : Int32)))), (p2_2, .inl (cI, 12, .inl (fun _ => (0 : Int32)))), (p3_2, .inl (cI, 24, .inl (fun _ => (-1 : Int32)))), (p4_2, .inl (cZ, 12, .inl (fun _ => (0 : Int32)))), (q3, .inr (4, [.ref t0_4, .int (0 : Int32), .int (0 : Int32), .long (0 : Int64)])), (t0_4, .inl (cI, 30, .inl (fun _ => (0 : Int32)))), (q5, .inr (1, [.ref g0_6, .ref g1_6, .ref g2_6, .int (1 : Int32)])), (g0_6, .inl (cI, 4, .inl (fun _ => (1 : Int32)))), (g1_6, .inl (cI, 4, .inl (fun _ => (1 : Int32)))), (g2_6, .inl (cI, 4, .inl (fun _ => (1 : Int32)))), (q7, .inr (0, [.ref a0_8, .ref a1_8, .ref a2_8, .ref a3_8, .int (0 : Int32), .long (0 : Int64)])), (a0_8, .inl (cI, 41, .inl (fun _ => (0 : Int32)))), (a1_8, .inl (cI, 41, .inl (fun _ => (0 : Int32)))), (a2_8, .inl (cI, 41, .inl (fun _ => (0 : Int32)))), (a3_8, .inl (cL, 41, .inr (.inl (fun _ => (0 : Int64)))))]) rfl rfl (by decide) (by decide) [0, 1, 2, 3, 4, 5, 6, 7, 8, 9, 10, 11, 12, 13, 14, 15, 16, 17, 18, 19, 20, 21] (by decide) (fun _ => rfl) (fun u hu => ?_)
  obtain ⟨r0_10, r1_10, r2_10⟩ := u
  try dsimp only at hu ⊢
  refine g_putF (C := RX5) (T := TX5) (N := 5) (ci := 5) B hK hin_X5_init_RX5 0 rfl rfl 4 (by decide) tyX5 tyX5_ok nmX5 (List.mem_of_getElem? (i := 23) rfl) rfl rfl hname rfl (ty := .object "TestkitchenBench$Relations") (v := .ref q9) (by decide +kernel) rfl rfl (Nat.le_of_ble_eq_true rfl) (w2 := [(hb, .inr (5, [.ref q1, .ref q3, .ref q5, .ref q7, .ref q9])), (q1, .inr (2, [.ref p0_2, .ref p1_2, .ref p2_2, .ref p3_2, .ref p4_2])), (p0_2, .inl (cI, 12, .inl (fun _ => (0 : Int32)))), (p1_2, .inl (cI, 12, .inl (fun _ => (0 : Int32)))), (p2_2, .inl (cI, 12, .inl (fun _ => (0 : Int32)))), (p3_2, .inl (cI, 24, .inl (fun _ => (-1 : Int32)))), (p4_2, .inl (cZ, 12, .inl (fun _ => (0 : Int32)))), (q3, .inr (4, [.ref t0_4, .int (0 : Int32), .int (0 : Int32), .long (0 : Int64)])), (t0_4, .inl (cI, 30, .inl (fun _ => (0 : Int32)))), (q5, .inr (1, [.ref g0_6, .ref g1_6, .ref g2_6, .int (1 : Int32)])), (g0_6, .inl (cI, 4, .inl (fun _ => (1 : Int32)))), (g1_6, .inl (cI, 4, .inl (fun _ => (1 : Int32)))), (g2_6, .inl (cI, 4, .inl (fun _ => (1 : Int32)))), (q7, .inr (0, [.ref a0_8, .ref a1_8, .ref a2_8, .ref a3_8, .int (0 : Int32), .long (0 : Int64)])), (a0_8, .inl (cI, 41, .inl (fun _ => (0 : Int32)))), (a1_8, .inl (cI, 41, .inl (fun _ => (0 : Int32)))), (a2_8, .inl (cI, 41, .inl (fun _ => (0 : Int32)))), (a3_8, .inl (cL, 41, .inr (.inl (fun _ => (0 : Int64))))), (q9, .inr (3, [.ref r0_10, .ref r1_10, .ref r2_10, .int (0 : Int32)])), (r0_10, .inl (cI, 6, .inl (fun _ => (0 : Int32)))), (r1_10, .inl (cI, 6, .inl (fun _ => (0 : Int32)))), (r2_10, .inl (cI, 6, .inl (fun _ => (0 : Int32))))]) rfl (fun _ h => h) dX5_init_56 ?_
  refine g_widen (k := 21) (n := 319) (by (try dsimp only); omega) (by (try dsimp only); omega) ?_
  exact g_vret_w B hr hlocks (q1, p0_2, p1_2, p2_2, p3_2, p4_2, q3, t0_4, q5, g0_6, g1_6, g2_6, q7, a0_8, a1_8, a2_8, a3_8, q9, r0_10, r1_10, r2_10) (rfl) (trivial) [0, 1, 2, 3, 4, 5, 6, 7, 8, 9, 10, 11, 12, 13, 14, 15, 16, 17, 18, 19, 20, 21] (by decide) rfl dX5_init_59

