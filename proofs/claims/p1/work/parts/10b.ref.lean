/-! the reference on a fresh object: its face -/
theorem kd_X6_changed : yX6_changed.cls ≠ "java/lang/invoke/MethodHandle" ∧ yX6_changed.cls ≠ "java/lang/invoke/VarHandle" ∧ (parseMethodDescriptor yX6_changed.desc).map (fun d => d.parameters.length) = some 0 := by decide +kernel
theorem kd_X6_count : yX6_count.cls ≠ "java/lang/invoke/MethodHandle" ∧ yX6_count.cls ≠ "java/lang/invoke/VarHandle" ∧ (parseMethodDescriptor yX6_count.desc).map (fun d => d.parameters.length) = some 1 := by decide +kernel
theorem kd_X6_drawn : yX6_drawn.cls ≠ "java/lang/invoke/MethodHandle" ∧ yX6_drawn.cls ≠ "java/lang/invoke/VarHandle" ∧ (parseMethodDescriptor yX6_drawn.desc).map (fun d => d.parameters.length) = some 1 := by decide +kernel
theorem kd_X6_edgesOf : yX6_edgesOf.cls ≠ "java/lang/invoke/MethodHandle" ∧ yX6_edgesOf.cls ≠ "java/lang/invoke/VarHandle" ∧ (parseMethodDescriptor yX6_edgesOf.desc).map (fun d => d.parameters.length) = some 1 := by decide +kernel
theorem kd_X6_isCase : yX6_isCase.cls ≠ "java/lang/invoke/MethodHandle" ∧ yX6_isCase.cls ≠ "java/lang/invoke/VarHandle" ∧ (parseMethodDescriptor yX6_isCase.desc).map (fun d => d.parameters.length) = some 1 := by decide +kernel
theorem kd_X6_isNeeded : yX6_isNeeded.cls ≠ "java/lang/invoke/MethodHandle" ∧ yX6_isNeeded.cls ≠ "java/lang/invoke/VarHandle" ∧ (parseMethodDescriptor yX6_isNeeded.desc).map (fun d => d.parameters.length) = some 3 := by decide +kernel
theorem kd_X6_isNode : yX6_isNode.cls ≠ "java/lang/invoke/MethodHandle" ∧ yX6_isNode.cls ≠ "java/lang/invoke/VarHandle" ∧ (parseMethodDescriptor yX6_isNode.desc).map (fun d => d.parameters.length) = some 1 := by decide +kernel
theorem kd_X6_isSlot : yX6_isSlot.cls ≠ "java/lang/invoke/MethodHandle" ∧ yX6_isSlot.cls ≠ "java/lang/invoke/VarHandle" ∧ (parseMethodDescriptor yX6_isSlot.desc).map (fun d => d.parameters.length) = some 1 := by decide +kernel
theorem kd_X6_make : yX6_make.cls ≠ "java/lang/invoke/MethodHandle" ∧ yX6_make.cls ≠ "java/lang/invoke/VarHandle" ∧ (parseMethodDescriptor yX6_make.desc).map (fun d => d.parameters.length) = some 0 := by decide +kernel
theorem kd_X6_no : yX6_no.cls ≠ "java/lang/invoke/MethodHandle" ∧ yX6_no.cls ≠ "java/lang/invoke/VarHandle" ∧ (parseMethodDescriptor yX6_no.desc).map (fun d => d.parameters.length) = some 1 := by decide +kernel
theorem kd_X6_ofEdgeNow : yX6_ofEdgeNow.cls ≠ "java/lang/invoke/MethodHandle" ∧ yX6_ofEdgeNow.cls ≠ "java/lang/invoke/VarHandle" ∧ (parseMethodDescriptor yX6_ofEdgeNow.desc).map (fun d => d.parameters.length) = some 2 := by decide +kernel
theorem kd_X6_placeOf : yX6_placeOf.cls ≠ "java/lang/invoke/MethodHandle" ∧ yX6_placeOf.cls ≠ "java/lang/invoke/VarHandle" ∧ (parseMethodDescriptor yX6_placeOf.desc).map (fun d => d.parameters.length) = some 1 := by decide +kernel
theorem kd_X6_resultOf : yX6_resultOf.cls ≠ "java/lang/invoke/MethodHandle" ∧ yX6_resultOf.cls ≠ "java/lang/invoke/VarHandle" ∧ (parseMethodDescriptor yX6_resultOf.desc).map (fun d => d.parameters.length) = some 1 := by decide +kernel
theorem kd_X6_tasteNow : yX6_tasteNow.cls ≠ "java/lang/invoke/MethodHandle" ∧ yX6_tasteNow.cls ≠ "java/lang/invoke/VarHandle" ∧ (parseMethodDescriptor yX6_tasteNow.desc).map (fun d => d.parameters.length) = some 1 := by decide +kernel
theorem hin_X6_ask_RX6 : ∀ z ∈ u_ws RX6 TX6 18, z ∈ wsX6_ask := by decide +kernel
theorem hin_X6_bad_RX6 : ∀ z ∈ u_ws RX6 TX6 18, z ∈ wsX6_bad := by decide +kernel
theorem hin_X6_covers_RX6 : ∀ z ∈ u_ws RX6 TX6 18, z ∈ wsX6_covers := by decide +kernel
theorem hin_X6_draw_RX6 : ∀ z ∈ u_ws RX6 TX6 18, z ∈ wsX6_draw := by decide +kernel
theorem hin_X6_drawn_RX6 : ∀ z ∈ u_ws RX6 TX6 18, z ∈ wsX6_drawn := by decide +kernel
theorem hin_X6_edge_RX6 : ∀ z ∈ u_ws RX6 TX6 18, z ∈ wsX6_edge := by decide +kernel
theorem hin_X6_generate_RX6 : ∀ z ∈ u_ws RX6 TX6 18, z ∈ wsX6_generate := by decide +kernel
theorem hin_X6_lead_RX6 : ∀ z ∈ u_ws RX6 TX6 18, z ∈ wsX6_lead := by decide +kernel
theorem hin_X6_make_RX6 : ∀ z ∈ u_ws RX6 TX6 18, z ∈ wsX6_make := by decide +kernel
theorem hin_X6_mutate_RX6 : ∀ z ∈ u_ws RX6 TX6 18, z ∈ wsX6_mutate := by decide +kernel
theorem hin_X6_ofEdgeNow_RX6 : ∀ z ∈ u_ws RX6 TX6 18, z ∈ wsX6_ofEdgeNow := by decide +kernel
theorem hin_X6_ofEdge_RX6 : ∀ z ∈ u_ws RX6 TX6 18, z ∈ wsX6_ofEdge := by decide +kernel
theorem hin_X6_ofKnown_RX6 : ∀ z ∈ u_ws RX6 TX6 18, z ∈ wsX6_ofKnown := by decide +kernel
theorem hin_X6_run_RX6 : ∀ z ∈ u_ws RX6 TX6 18, z ∈ wsX6_run := by decide +kernel
theorem hin_X6_tasteNow_RX6 : ∀ z ∈ u_ws RX6 TX6 18, z ∈ wsX6_tasteNow := by decide +kernel
theorem hin_X6_taste_RX6 : ∀ z ∈ u_ws RX6 TX6 18, z ∈ wsX6_taste := by decide +kernel
theorem hin_X6_weights_RX6 : ∀ z ∈ u_ws RX6 TX6 18, z ∈ wsX6_weights := by decide +kernel
set_option maxHeartbeats 4000000 in
set_option maxRecDepth 100000 in
theorem r_drawn_3 (l : Launch) {D : va_G} {cI cL cZ : ClassId} (hm : Nat) (m1 : Nat) (m2 : Nat) (m3 : Nat) (m4 : Nat) (m5 : Nat) (m7 : Nat) (m9 : Nat) (m10 : Nat) (m11 : Nat) (m12 : Nat) (m13 : Nat) (m15 : Nat) (m16 : Nat) (m17 : Nat) (th : Int32) (kn : Int32) (rl : Int32) (sd : Nat) (hs : sd < 10000) : WM l yX6_drawn wsX6_drawn ({ frames := 0, cells := 0, slots := 0, locals := 0 } : Room) D (gTys cI cL cZ) [.ref hm, .int (3 : Int32)] [(hm, .inr (6, [.int th, .ref m1, .ref m2, .ref m3, .ref m4, .ref m5, .int (nI sd), .ref m7, .int kn, .ref m9, .ref m10, .ref m11, .ref m12, .ref m13, .int rl, .ref m15, .ref m16, .ref m17]))] (fun (_ : Unit) => True) (fun (_ : Unit) => some (.int (nI ((sd * 421 + 1663) % 10000 / 100 % 3)))) (fun (_ : Unit) => [(hm, .inr (6, [.int th, .ref m1, .ref m2, .ref m3, .ref m4, .ref m5, .int (nI ((sd * 421 + 1663) % 10000)), .ref m7, .int kn, .ref m9, .ref m10, .ref m11, .ref m12, .ref m13, .int rl, .ref m15, .ref m16, .ref m17]))]) := by
  refine WM.ofG cX6_drawn 2 (some .int) (by decide +kernel) rfl (Nat.le_of_ble_eq_true rfl) ?_
  intro p e s m below meth c A hA B hr hlocks hname hK hN
  refine g_aload_n B dX6_drawn_0 0 rfl ?_
  refine g_aload_n B dX6_drawn_1 0 rfl ?_
  refine g_get (C := RX6) (T := TX6) (N := 18) (ci := 6) B hK hin_X6_drawn_RX6 0 rfl rfl 6 (by decide) (List.mem_of_getElem? (i := 1) rfl) rfl (v := .int (nI sd)) rfl dX6_drawn_2 ?_
  refine g_sipush (v := (421 : Int32)) B dX6_drawn_5 (by decide) ?_
  refine g_imul (v := nI (sd * 421)) B dX6_drawn_8 (pk_mul sd 421) ?_
  refine g_sipush (v := (1663 : Int32)) B dX6_drawn_9 (by decide) ?_
  refine g_iadd (v := nI ((sd * 421) + 1663)) B dX6_drawn_12 (nI_add (sd * 421) 1663) ?_
  refine g_sipush (v := (10000 : Int32)) B dX6_drawn_13 (by decide) ?_
  refine g_irem (v := nI (((sd * 421) + 1663) % 10000)) B dX6_drawn_16 (by decide) (pk_rem (a := (sd * 421) + 1663) (d := 10000) (by omega) (by decide) (by decide)) ?_
  refine g_put (C := RX6) (T := TX6) (N := 18) (ci := 6) B hK hin_X6_drawn_RX6 0 rfl rfl 6 (by decide) tyX6 tyX6_ok nmX6 (List.mem_of_getElem? (i := 1) rfl) rfl rfl (ty := .int) (v := .int (nI (((sd * 421) + 1663) % 10000))) (by decide +kernel) rfl rfl (Nat.le_of_ble_eq_true rfl) (w2 := [(hm, .inr (6, [.int th, .ref m1, .ref m2, .ref m3, .ref m4, .ref m5, .int (nI (((sd * 421) + 1663) % 10000)), .ref m7, .int kn, .ref m9, .ref m10, .ref m11, .ref m12, .ref m13, .int rl, .ref m15, .ref m16, .ref m17]))]) rfl (fun _ h => h) dX6_drawn_17 ?_
  refine g_aload_n B dX6_drawn_20 0 rfl ?_
  refine g_get (C := RX6) (T := TX6) (N := 18) (ci := 6) B hK hin_X6_drawn_RX6 0 rfl rfl 6 (by decide) (List.mem_of_getElem? (i := 1) rfl) rfl (v := .int (nI (((sd * 421) + 1663) % 10000))) rfl dX6_drawn_21 ?_
  refine g_bipush (v := (100 : Int32)) B dX6_drawn_24 (by decide) ?_
  refine g_idiv (v := nI ((((sd * 421) + 1663) % 10000) / 100)) B dX6_drawn_26 (by decide) (pk_div (a := ((sd * 421) + 1663) % 10000) (d := 100) (by omega) (by decide) (by decide)) ?_
  refine g_iload_n B dX6_drawn_27 1 rfl ?_
  refine g_irem (v := nI (((((sd * 421) + 1663) % 10000) / 100) % 3)) B dX6_drawn_28 (by decide) (pk_rem (a := (((sd * 421) + 1663) % 10000) / 100) (d := 3) (by omega) (by decide) (by decide)) ?_
  exact g_iret_w B hr rfl hlocks () (rfl) (trivial) [0] (by decide) rfl dX6_drawn_29

set_option maxHeartbeats 4000000 in
set_option maxRecDepth 100000 in
theorem r_drawn_4 (l : Launch) {D : va_G} {cI cL cZ : ClassId} (hm : Nat) (m1 : Nat) (m2 : Nat) (m3 : Nat) (m4 : Nat) (m5 : Nat) (m7 : Nat) (m9 : Nat) (m10 : Nat) (m11 : Nat) (m12 : Nat) (m13 : Nat) (m15 : Nat) (m16 : Nat) (m17 : Nat) (th : Int32) (kn : Int32) (rl : Int32) (sd : Nat) (hs : sd < 10000) : WM l yX6_drawn wsX6_drawn ({ frames := 0, cells := 0, slots := 0, locals := 0 } : Room) D (gTys cI cL cZ) [.ref hm, .int (4 : Int32)] [(hm, .inr (6, [.int th, .ref m1, .ref m2, .ref m3, .ref m4, .ref m5, .int (nI sd), .ref m7, .int kn, .ref m9, .ref m10, .ref m11, .ref m12, .ref m13, .int rl, .ref m15, .ref m16, .ref m17]))] (fun (_ : Unit) => True) (fun (_ : Unit) => some (.int (nI ((sd * 421 + 1663) % 10000 / 100 % 4)))) (fun (_ : Unit) => [(hm, .inr (6, [.int th, .ref m1, .ref m2, .ref m3, .ref m4, .ref m5, .int (nI ((sd * 421 + 1663) % 10000)), .ref m7, .int kn, .ref m9, .ref m10, .ref m11, .ref m12, .ref m13, .int rl, .ref m15, .ref m16, .ref m17]))]) := by
  refine WM.ofG cX6_drawn 2 (some .int) (by decide +kernel) rfl (Nat.le_of_ble_eq_true rfl) ?_
  intro p e s m below meth c A hA B hr hlocks hname hK hN
  refine g_aload_n B dX6_drawn_0 0 rfl ?_
  refine g_aload_n B dX6_drawn_1 0 rfl ?_
  refine g_get (C := RX6) (T := TX6) (N := 18) (ci := 6) B hK hin_X6_drawn_RX6 0 rfl rfl 6 (by decide) (List.mem_of_getElem? (i := 1) rfl) rfl (v := .int (nI sd)) rfl dX6_drawn_2 ?_
  refine g_sipush (v := (421 : Int32)) B dX6_drawn_5 (by decide) ?_
  refine g_imul (v := nI (sd * 421)) B dX6_drawn_8 (pk_mul sd 421) ?_
  refine g_sipush (v := (1663 : Int32)) B dX6_drawn_9 (by decide) ?_
  refine g_iadd (v := nI ((sd * 421) + 1663)) B dX6_drawn_12 (nI_add (sd * 421) 1663) ?_
  refine g_sipush (v := (10000 : Int32)) B dX6_drawn_13 (by decide) ?_
  refine g_irem (v := nI (((sd * 421) + 1663) % 10000)) B dX6_drawn_16 (by decide) (pk_rem (a := (sd * 421) + 1663) (d := 10000) (by omega) (by decide) (by decide)) ?_
  refine g_put (C := RX6) (T := TX6) (N := 18) (ci := 6) B hK hin_X6_drawn_RX6 0 rfl rfl 6 (by decide) tyX6 tyX6_ok nmX6 (List.mem_of_getElem? (i := 1) rfl) rfl rfl (ty := .int) (v := .int (nI (((sd * 421) + 1663) % 10000))) (by decide +kernel) rfl rfl (Nat.le_of_ble_eq_true rfl) (w2 := [(hm, .inr (6, [.int th, .ref m1, .ref m2, .ref m3, .ref m4, .ref m5, .int (nI (((sd * 421) + 1663) % 10000)), .ref m7, .int kn, .ref m9, .ref m10, .ref m11, .ref m12, .ref m13, .int rl, .ref m15, .ref m16, .ref m17]))]) rfl (fun _ h => h) dX6_drawn_17 ?_
  refine g_aload_n B dX6_drawn_20 0 rfl ?_
  refine g_get (C := RX6) (T := TX6) (N := 18) (ci := 6) B hK hin_X6_drawn_RX6 0 rfl rfl 6 (by decide) (List.mem_of_getElem? (i := 1) rfl) rfl (v := .int (nI (((sd * 421) + 1663) % 10000))) rfl dX6_drawn_21 ?_
  refine g_bipush (v := (100 : Int32)) B dX6_drawn_24 (by decide) ?_
  refine g_idiv (v := nI ((((sd * 421) + 1663) % 10000) / 100)) B dX6_drawn_26 (by decide) (pk_div (a := ((sd * 421) + 1663) % 10000) (d := 100) (by omega) (by decide) (by decide)) ?_
  refine g_iload_n B dX6_drawn_27 1 rfl ?_
  refine g_irem (v := nI (((((sd * 421) + 1663) % 10000) / 100) % 4)) B dX6_drawn_28 (by decide) (pk_rem (a := (((sd * 421) + 1663) % 10000) / 100) (d := 4) (by omega) (by decide) (by decide)) ?_
  exact g_iret_w B hr rfl hlocks () (rfl) (trivial) [0] (by decide) rfl dX6_drawn_29

set_option maxHeartbeats 4000000 in
set_option maxRecDepth 100000 in
theorem r_make_1 (l : Launch) {D : va_G} {cI cL cZ : ClassId} (hm : Nat) (m1 : Nat) (m2 : Nat) (m3 : Nat) (m4 : Nat) (m5 : Nat) (m7 : Nat) (m9 : Nat) (m10 : Nat) (m11 : Nat) (m12 : Nat) (m13 : Nat) (m15 : Nat) (m16 : Nat) (m17 : Nat) (th : Int32) (kn : Int32) (rl : Int32)  : WM l yX6_make wsX6_make ({ frames := 1, cells := 0, slots := 0, locals := 21 } : Room) D (gTys cI cL cZ) [.ref hm] [(hm, .inr (6, [.int th, .ref m1, .ref m2, .ref m3, .ref m4, .ref m5, .int (1 : Int32), .ref m7, .int kn, .ref m9, .ref m10, .ref m11, .ref m12, .ref m13, .int rl, .ref m15, .ref m16, .ref m17])), (m7, .inl (cI, 12, .inl (fun _ => (1 : Int32))))] (fun (_ : Unit) => True) (fun (_ : Unit) => some (.int (7947 : Int32))) (fun (_ : Unit) => [(hm, .inr (6, [.int th, .ref m1, .ref m2, .ref m3, .ref m4, .ref m5, .int (9945 : Int32), .ref m7, .int kn, .ref m9, .ref m10, .ref m11, .ref m12, .ref m13, .int rl, .ref m15, .ref m16, .ref m17])), (m7, .inl (cI, 12, .inl (fun _ => (1 : Int32))))]) := by
  refine WM.ofG cX6_make 8 (some .int) (by decide +kernel) rfl (Nat.le_of_ble_eq_true rfl) ?_
  intro p e s m below meth c A hA B hr hlocks hname hK hN
  refine g_iconst (v := (0 : Int32)) B dX6_make_0 (by decide) ?_
  refine g_istore_n (lv' := [(0, .ref hm), (1, .int (0 : Int32))]) B dX6_make_1 rfl (by decide) [1, 0] rfl ?_
  refine g_iconst (v := (0 : Int32)) B dX6_make_2 (by decide) ?_
  refine g_istore_n (lv' := [(0, .ref hm), (1, .int (0 : Int32)), (2, .int (0 : Int32))]) B dX6_make_3 rfl (by decide) [1, 2, 0] rfl ?_
  refine g_iload_n B dX6_make_4 2 rfl ?_
  refine g_iconst (v := (4 : Int32)) B dX6_make_5 (by decide) ?_
  refine g_icmp_ge (tgt := 118) B dX6_make_6 (by decide) (fun c1 => absurd c1 (by decide)) (fun _ => ?_)
  refine g_aload_n B dX6_make_9 0 rfl ?_
  refine g_get (C := RX6) (T := TX6) (N := 18) (ci := 6) B hK hin_X6_make_RX6 0 rfl rfl 7 (by decide) (List.mem_of_getElem? (i := 1) rfl) rfl (v := .ref m7) rfl dX6_make_10 ?_
  refine g_iconst (v := (3 : Int32)) B dX6_make_13 (by decide) ?_
  refine g_iload_n B dX6_make_14 2 rfl ?_
  refine g_imul (v := (0 : Int32)) B dX6_make_15 (by decide) ?_
  refine g_iald B hK 1 0 rfl rfl 0 rfl (by omega) (by omega) (v := (1 : Int32)) rfl dX6_make_16 ?_
  refine g_istore_n (lv' := [(0, .ref hm), (1, .int (0 : Int32)), (2, .int (0 : Int32)), (3, .int (1 : Int32))]) B dX6_make_17 rfl (by decide) [1, 2, 3, 0] rfl ?_
  refine g_iload_n B dX6_make_18 3 rfl ?_
  refine g_aload_n B dX6_make_19 0 rfl ?_
  refine g_get (C := RX6) (T := TX6) (N := 18) (ci := 6) B hK hin_X6_make_RX6 0 rfl rfl 7 (by decide) (List.mem_of_getElem? (i := 1) rfl) rfl (v := .ref m7) rfl dX6_make_20 ?_
  refine g_iconst (v := (3 : Int32)) B dX6_make_23 (by decide) ?_
  refine g_iload_n B dX6_make_24 2 rfl ?_
  refine g_imul (v := (0 : Int32)) B dX6_make_25 (by decide) ?_
  refine g_iconst (v := (1 : Int32)) B dX6_make_26 (by decide) ?_
  refine g_iadd (v := (1 : Int32)) B dX6_make_27 (by decide) ?_
  refine g_iald B hK 1 0 rfl rfl 1 rfl (by omega) (by omega) (v := (1 : Int32)) rfl dX6_make_28 ?_
  refine g_iadd (v := (2 : Int32)) B dX6_make_29 (by decide) ?_
  refine g_istore (lv' := [(0, .ref hm), (1, .int (0 : Int32)), (2, .int (0 : Int32)), (3, .int (1 : Int32)), (4, .int (2 : Int32))]) B dX6_make_30 (by decide) [1, 2, 3, 4, 0] rfl ?_
  refine g_iload B dX6_make_32 4 rfl ?_
  refine g_aload_n B dX6_make_34 0 rfl ?_
  refine g_get (C := RX6) (T := TX6) (N := 18) (ci := 6) B hK hin_X6_make_RX6 0 rfl rfl 7 (by decide) (List.mem_of_getElem? (i := 1) rfl) rfl (v := .ref m7) rfl dX6_make_35 ?_
  refine g_iconst (v := (3 : Int32)) B dX6_make_38 (by decide) ?_
  refine g_iload_n B dX6_make_39 2 rfl ?_
  refine g_imul (v := (0 : Int32)) B dX6_make_40 (by decide) ?_
  refine g_iconst (v := (2 : Int32)) B dX6_make_41 (by decide) ?_
  refine g_iadd (v := (2 : Int32)) B dX6_make_42 (by decide) ?_
  refine g_iald B hK 1 0 rfl rfl 2 rfl (by omega) (by omega) (v := (1 : Int32)) rfl dX6_make_43 ?_
  refine g_iadd (v := (3 : Int32)) B dX6_make_44 (by decide) ?_
  refine g_istore (lv' := [(0, .ref hm), (1, .int (0 : Int32)), (2, .int (0 : Int32)), (3, .int (1 : Int32)), (4, .int (2 : Int32)), (5, .int (3 : Int32))]) B dX6_make_45 (by decide) [1, 2, 3, 4, 5, 0] rfl ?_
  refine g_iconst (v := (0 : Int32)) B dX6_make_47 (by decide) ?_
  refine g_istore (lv' := [(0, .ref hm), (1, .int (0 : Int32)), (2, .int (0 : Int32)), (3, .int (1 : Int32)), (4, .int (2 : Int32)), (5, .int (3 : Int32)), (6, .int (0 : Int32))]) B dX6_make_48 (by decide) [1, 2, 3, 4, 5, 6, 0] rfl ?_
  refine g_iload B dX6_make_50 5 rfl ?_
  refine g_if_le (tgt := 104) B dX6_make_52 (by decide) (fun c2 => absurd c2 (by decide)) (fun _ => ?_)
  refine g_aload_n B dX6_make_55 0 rfl ?_
  refine g_iload B dX6_make_56 5 rfl ?_
  refine g_callW (w2 := (fun (_ : Unit) => [(hm, .inr (6, [.int th, .ref m1, .ref m2, .ref m3, .ref m4, .ref m5, .int (nI ((1 * 421 + 1663) % 10000)), .ref m7, .int kn, .ref m9, .ref m10, .ref m11, .ref m12, .ref m13, .int rl, .ref m15, .ref m16, .ref m17])), (m7, .inl (cI, 12, .inl (fun _ => (1 : Int32))))])) (g_runV (q0 := 0) (ci := 6) B hK rfl rfl (r_drawn_3 l (D := D) (cI := cI) (cL := cL) (cZ := cZ) hm m1 m2 m3 m4 m5 m7 m9 m10 m11 m12 m13 m15 m16 m17 th kn rl 1 (by omega)) (gPw.pre (av := [.ref hm, .int (3 : Int32)]) (wc := [(hm, .inr (6, [.int th, .ref m1, .ref m2, .ref m3, .ref m4, .ref m5, .int (1 : Int32), .ref m7, .int kn, .ref m9, .ref m10, .ref m11, .ref m12, .ref m13, .int rl, .ref m15, .ref m16, .ref m17]))]) hK hN [0] rfl (by decide)) gX6_make_X6_drawn rfl rfl kd_X6_drawn ⟨by decide, by decide⟩ (st := []) rfl (Nat.le_of_ble_eq_true rfl) dX6_make_58 ⟨by decide, by decide⟩) hA (fun _ h => h) [0] [1] (wr := [(m7, .inl (cI, 12, .inl (fun _ => (1 : Int32))))]) rfl rfl (by decide) (by decide) [1, 0] (by decide) (fun _ => rfl) (fun u hu => ?_)
  refine g_eqw (w2 := [(hm, .inr (6, [.int th, .ref m1, .ref m2, .ref m3, .ref m4, .ref m5, .int (2084 : Int32), .ref m7, .int kn, .ref m9, .ref m10, .ref m11, .ref m12, .ref m13, .int rl, .ref m15, .ref m16, .ref m17])), (m7, .inl (cI, 12, .inl (fun _ => (1 : Int32))))]) rfl ?_
  refine g_eqi (y := (2 : Int32)) rfl ?_
  refine g_istore (lv' := [(0, .ref hm), (1, .int (0 : Int32)), (2, .int (0 : Int32)), (3, .int (1 : Int32)), (4, .int (2 : Int32)), (5, .int (3 : Int32)), (6, .int (0 : Int32)), (7, .int (2 : Int32))]) B dX6_make_61 (by decide) [1, 2, 3, 4, 5, 6, 7, 0] rfl ?_
  refine g_iload B dX6_make_63 7 rfl ?_
  refine g_iload_n B dX6_make_65 3 rfl ?_
  refine g_icmp_ge (tgt := 77) B dX6_make_66 (by decide) (fun _ => ?_) (fun c4 => absurd (by decide) c4)
  refine g_iload B dX6_make_77 7 rfl ?_
  refine g_iload B dX6_make_79 4 rfl ?_
  refine g_icmp_ge (tgt := 94) B dX6_make_81 (by decide) (fun _ => ?_) (fun c5 => absurd (by decide) c5)
  refine g_bipush (v := (7 : Int32)) B dX6_make_94 (by decide) ?_
  refine g_aload_n B dX6_make_96 0 rfl ?_
  refine g_iconst (v := (3 : Int32)) B dX6_make_97 (by decide) ?_
  refine g_callW (w2 := (fun (_ : Unit) => [(hm, .inr (6, [.int th, .ref m1, .ref m2, .ref m3, .ref m4, .ref m5, .int (nI ((2084 * 421 + 1663) % 10000)), .ref m7, .int kn, .ref m9, .ref m10, .ref m11, .ref m12, .ref m13, .int rl, .ref m15, .ref m16, .ref m17])), (m7, .inl (cI, 12, .inl (fun _ => (1 : Int32))))])) (g_runV (q0 := 0) (ci := 6) B hK rfl rfl (r_drawn_3 l (D := D) (cI := cI) (cL := cL) (cZ := cZ) hm m1 m2 m3 m4 m5 m7 m9 m10 m11 m12 m13 m15 m16 m17 th kn rl 2084 (by omega)) (gPw.pre (av := [.ref hm, .int (3 : Int32)]) (wc := [(hm, .inr (6, [.int th, .ref m1, .ref m2, .ref m3, .ref m4, .ref m5, .int (2084 : Int32), .ref m7, .int kn, .ref m9, .ref m10, .ref m11, .ref m12, .ref m13, .int rl, .ref m15, .ref m16, .ref m17]))]) hK hN [0] rfl (by decide)) gX6_make_X6_drawn rfl rfl kd_X6_drawn ⟨by decide, by decide⟩ (st := [.int (7 : Int32)]) rfl (Nat.le_of_ble_eq_true rfl) dX6_make_98 ⟨by decide, by decide⟩) hA (fun _ h => h) [0] [1] (wr := [(m7, .inl (cI, 12, .inl (fun _ => (1 : Int32))))]) rfl rfl (by decide) (by decide) [1, 0] (by decide) (fun _ => rfl) (fun u hu => ?_)
  refine g_eqw (w2 := [(hm, .inr (6, [.int th, .ref m1, .ref m2, .ref m3, .ref m4, .ref m5, .int (9027 : Int32), .ref m7, .int kn, .ref m9, .ref m10, .ref m11, .ref m12, .ref m13, .int rl, .ref m15, .ref m16, .ref m17])), (m7, .inl (cI, 12, .inl (fun _ => (1 : Int32))))]) rfl ?_
  refine g_eqi (y := (0 : Int32)) rfl ?_
  refine g_iadd (v := (7 : Int32)) B dX6_make_101 (by decide) ?_
  refine g_istore (lv' := [(0, .ref hm), (1, .int (0 : Int32)), (2, .int (0 : Int32)), (3, .int (1 : Int32)), (4, .int (2 : Int32)), (5, .int (3 : Int32)), (6, .int (7 : Int32)), (7, .int (2 : Int32))]) B dX6_make_102 (by decide) [1, 2, 3, 4, 5, 6, 0, 7] rfl ?_
  refine g_bipush (v := (10 : Int32)) B dX6_make_104 (by decide) ?_
  refine g_iload_n B dX6_make_106 1 rfl ?_
  refine g_imul (v := (0 : Int32)) B dX6_make_107 (by decide) ?_
  refine g_iload B dX6_make_108 6 rfl ?_
  refine g_iadd (v := (7 : Int32)) B dX6_make_110 (by decide) ?_
  refine g_istore_n (lv' := [(0, .ref hm), (1, .int (7 : Int32)), (2, .int (0 : Int32)), (3, .int (1 : Int32)), (4, .int (2 : Int32)), (5, .int (3 : Int32)), (6, .int (7 : Int32)), (7, .int (2 : Int32))]) B dX6_make_111 rfl (by decide) [1, 0, 2, 3, 4, 5, 6, 7] rfl ?_
  refine g_iinc (lv' := [(0, .ref hm), (1, .int (7 : Int32)), (2, .int (1 : Int32)), (3, .int (1 : Int32)), (4, .int (2 : Int32)), (5, .int (3 : Int32)), (6, .int (7 : Int32)), (7, .int (2 : Int32))]) B dX6_make_112 2 rfl (by decide) (by decide) [1, 2, 0, 3, 4, 5, 6, 7] rfl ?_
  refine g_goto (tgt := 4) B dX6_make_115 (by decide) ?_
  refine g_iload_n B dX6_make_4 2 rfl ?_
  refine g_iconst (v := (4 : Int32)) B dX6_make_5 (by decide) ?_
  refine g_icmp_ge (tgt := 118) B dX6_make_6 (by decide) (fun c7 => absurd c7 (by decide)) (fun _ => ?_)
  refine g_aload_n B dX6_make_9 0 rfl ?_
  refine g_get (C := RX6) (T := TX6) (N := 18) (ci := 6) B hK hin_X6_make_RX6 0 rfl rfl 7 (by decide) (List.mem_of_getElem? (i := 1) rfl) rfl (v := .ref m7) rfl dX6_make_10 ?_
  refine g_iconst (v := (3 : Int32)) B dX6_make_13 (by decide) ?_
  refine g_iload_n B dX6_make_14 2 rfl ?_
  refine g_imul (v := (3 : Int32)) B dX6_make_15 (by decide) ?_
  refine g_iald B hK 1 0 rfl rfl 3 rfl (by omega) (by omega) (v := (1 : Int32)) rfl dX6_make_16 ?_
  refine g_istore_n (lv' := [(0, .ref hm), (1, .int (7 : Int32)), (2, .int (1 : Int32)), (3, .int (1 : Int32)), (4, .int (2 : Int32)), (5, .int (3 : Int32)), (6, .int (7 : Int32)), (7, .int (2 : Int32))]) B dX6_make_17 rfl (by decide) [1, 2, 3, 0, 4, 5, 6, 7] rfl ?_
  refine g_iload_n B dX6_make_18 3 rfl ?_
  refine g_aload_n B dX6_make_19 0 rfl ?_
  refine g_get (C := RX6) (T := TX6) (N := 18) (ci := 6) B hK hin_X6_make_RX6 0 rfl rfl 7 (by decide) (List.mem_of_getElem? (i := 1) rfl) rfl (v := .ref m7) rfl dX6_make_20 ?_
  refine g_iconst (v := (3 : Int32)) B dX6_make_23 (by decide) ?_
  refine g_iload_n B dX6_make_24 2 rfl ?_
  refine g_imul (v := (3 : Int32)) B dX6_make_25 (by decide) ?_
  refine g_iconst (v := (1 : Int32)) B dX6_make_26 (by decide) ?_
  refine g_iadd (v := (4 : Int32)) B dX6_make_27 (by decide) ?_
  refine g_iald B hK 1 0 rfl rfl 4 rfl (by omega) (by omega) (v := (1 : Int32)) rfl dX6_make_28 ?_
  refine g_iadd (v := (2 : Int32)) B dX6_make_29 (by decide) ?_
  refine g_istore (lv' := [(0, .ref hm), (1, .int (7 : Int32)), (2, .int (1 : Int32)), (3, .int (1 : Int32)), (4, .int (2 : Int32)), (5, .int (3 : Int32)), (6, .int (7 : Int32)), (7, .int (2 : Int32))]) B dX6_make_30 (by decide) [1, 2, 3, 4, 0, 5, 6, 7] rfl ?_
  refine g_iload B dX6_make_32 4 rfl ?_
  refine g_aload_n B dX6_make_34 0 rfl ?_
  refine g_get (C := RX6) (T := TX6) (N := 18) (ci := 6) B hK hin_X6_make_RX6 0 rfl rfl 7 (by decide) (List.mem_of_getElem? (i := 1) rfl) rfl (v := .ref m7) rfl dX6_make_35 ?_
  refine g_iconst (v := (3 : Int32)) B dX6_make_38 (by decide) ?_
  refine g_iload_n B dX6_make_39 2 rfl ?_
  refine g_imul (v := (3 : Int32)) B dX6_make_40 (by decide) ?_
  refine g_iconst (v := (2 : Int32)) B dX6_make_41 (by decide) ?_
  refine g_iadd (v := (5 : Int32)) B dX6_make_42 (by decide) ?_
  refine g_iald B hK 1 0 rfl rfl 5 rfl (by omega) (by omega) (v := (1 : Int32)) rfl dX6_make_43 ?_
  refine g_iadd (v := (3 : Int32)) B dX6_make_44 (by decide) ?_
  refine g_istore (lv' := [(0, .ref hm), (1, .int (7 : Int32)), (2, .int (1 : Int32)), (3, .int (1 : Int32)), (4, .int (2 : Int32)), (5, .int (3 : Int32)), (6, .int (7 : Int32)), (7, .int (2 : Int32))]) B dX6_make_45 (by decide) [1, 2, 3, 4, 5, 0, 6, 7] rfl ?_
  refine g_iconst (v := (0 : Int32)) B dX6_make_47 (by decide) ?_
  refine g_istore (lv' := [(0, .ref hm), (1, .int (7 : Int32)), (2, .int (1 : Int32)), (3, .int (1 : Int32)), (4, .int (2 : Int32)), (5, .int (3 : Int32)), (6, .int (0 : Int32)), (7, .int (2 : Int32))]) B dX6_make_48 (by decide) [1, 2, 3, 4, 5, 6, 0, 7] rfl ?_
  refine g_iload B dX6_make_50 5 rfl ?_
  refine g_if_le (tgt := 104) B dX6_make_52 (by decide) (fun c8 => absurd c8 (by decide)) (fun _ => ?_)
  refine g_aload_n B dX6_make_55 0 rfl ?_
  refine g_iload B dX6_make_56 5 rfl ?_
  refine g_callW (w2 := (fun (_ : Unit) => [(hm, .inr (6, [.int th, .ref m1, .ref m2, .ref m3, .ref m4, .ref m5, .int (nI ((9027 * 421 + 1663) % 10000)), .ref m7, .int kn, .ref m9, .ref m10, .ref m11, .ref m12, .ref m13, .int rl, .ref m15, .ref m16, .ref m17])), (m7, .inl (cI, 12, .inl (fun _ => (1 : Int32))))])) (g_runV (q0 := 0) (ci := 6) B hK rfl rfl (r_drawn_3 l (D := D) (cI := cI) (cL := cL) (cZ := cZ) hm m1 m2 m3 m4 m5 m7 m9 m10 m11 m12 m13 m15 m16 m17 th kn rl 9027 (by omega)) (gPw.pre (av := [.ref hm, .int (3 : Int32)]) (wc := [(hm, .inr (6, [.int th, .ref m1, .ref m2, .ref m3, .ref m4, .ref m5, .int (9027 : Int32), .ref m7, .int kn, .ref m9, .ref m10, .ref m11, .ref m12, .ref m13, .int rl, .ref m15, .ref m16, .ref m17]))]) hK hN [0] rfl (by decide)) gX6_make_X6_drawn rfl rfl kd_X6_drawn ⟨by decide, by decide⟩ (st := []) rfl (Nat.le_of_ble_eq_true rfl) dX6_make_58 ⟨by decide, by decide⟩) hA (fun _ h => h) [0] [1] (wr := [(m7, .inl (cI, 12, .inl (fun _ => (1 : Int32))))]) rfl rfl (by decide) (by decide) [1, 0] (by decide) (fun _ => rfl) (fun u hu => ?_)
  refine g_eqw (w2 := [(hm, .inr (6, [.int th, .ref m1, .ref m2, .ref m3, .ref m4, .ref m5, .int (2030 : Int32), .ref m7, .int kn, .ref m9, .ref m10, .ref m11, .ref m12, .ref m13, .int rl, .ref m15, .ref m16, .ref m17])), (m7, .inl (cI, 12, .inl (fun _ => (1 : Int32))))]) rfl ?_
  refine g_eqi (y := (2 : Int32)) rfl ?_
  refine g_istore (lv' := [(0, .ref hm), (1, .int (7 : Int32)), (2, .int (1 : Int32)), (3, .int (1 : Int32)), (4, .int (2 : Int32)), (5, .int (3 : Int32)), (6, .int (0 : Int32)), (7, .int (2 : Int32))]) B dX6_make_61 (by decide) [1, 2, 3, 4, 5, 6, 7, 0] rfl ?_
  refine g_iload B dX6_make_63 7 rfl ?_
  refine g_iload_n B dX6_make_65 3 rfl ?_
  refine g_icmp_ge (tgt := 77) B dX6_make_66 (by decide) (fun _ => ?_) (fun c10 => absurd (by decide) c10)
  refine g_iload B dX6_make_77 7 rfl ?_
  refine g_iload B dX6_make_79 4 rfl ?_
  refine g_icmp_ge (tgt := 94) B dX6_make_81 (by decide) (fun _ => ?_) (fun c11 => absurd (by decide) c11)
  refine g_bipush (v := (7 : Int32)) B dX6_make_94 (by decide) ?_
  refine g_aload_n B dX6_make_96 0 rfl ?_
  refine g_iconst (v := (3 : Int32)) B dX6_make_97 (by decide) ?_
  refine g_callW (w2 := (fun (_ : Unit) => [(hm, .inr (6, [.int th, .ref m1, .ref m2, .ref m3, .ref m4, .ref m5, .int (nI ((2030 * 421 + 1663) % 10000)), .ref m7, .int kn, .ref m9, .ref m10, .ref m11, .ref m12, .ref m13, .int rl, .ref m15, .ref m16, .ref m17])), (m7, .inl (cI, 12, .inl (fun _ => (1 : Int32))))])) (g_runV (q0 := 0) (ci := 6) B hK rfl rfl (r_drawn_3 l (D := D) (cI := cI) (cL := cL) (cZ := cZ) hm m1 m2 m3 m4 m5 m7 m9 m10 m11 m12 m13 m15 m16 m17 th kn rl 2030 (by omega)) (gPw.pre (av := [.ref hm, .int (3 : Int32)]) (wc := [(hm, .inr (6, [.int th, .ref m1, .ref m2, .ref m3, .ref m4, .ref m5, .int (2030 : Int32), .ref m7, .int kn, .ref m9, .ref m10, .ref m11, .ref m12, .ref m13, .int rl, .ref m15, .ref m16, .ref m17]))]) hK hN [0] rfl (by decide)) gX6_make_X6_drawn rfl rfl kd_X6_drawn ⟨by decide, by decide⟩ (st := [.int (7 : Int32)]) rfl (Nat.le_of_ble_eq_true rfl) dX6_make_98 ⟨by decide, by decide⟩) hA (fun _ h => h) [0] [1] (wr := [(m7, .inl (cI, 12, .inl (fun _ => (1 : Int32))))]) rfl rfl (by decide) (by decide) [1, 0] (by decide) (fun _ => rfl) (fun u hu => ?_)
  refine g_eqw (w2 := [(hm, .inr (6, [.int th, .ref m1, .ref m2, .ref m3, .ref m4, .ref m5, .int (6293 : Int32), .ref m7, .int kn, .ref m9, .ref m10, .ref m11, .ref m12, .ref m13, .int rl, .ref m15, .ref m16, .ref m17])), (m7, .inl (cI, 12, .inl (fun _ => (1 : Int32))))]) rfl ?_
  refine g_eqi (y := (2 : Int32)) rfl ?_
  refine g_iadd (v := (9 : Int32)) B dX6_make_101 (by decide) ?_
  refine g_istore (lv' := [(0, .ref hm), (1, .int (7 : Int32)), (2, .int (1 : Int32)), (3, .int (1 : Int32)), (4, .int (2 : Int32)), (5, .int (3 : Int32)), (6, .int (9 : Int32)), (7, .int (2 : Int32))]) B dX6_make_102 (by decide) [1, 2, 3, 4, 5, 6, 0, 7] rfl ?_
  refine g_bipush (v := (10 : Int32)) B dX6_make_104 (by decide) ?_
  refine g_iload_n B dX6_make_106 1 rfl ?_
  refine g_imul (v := (70 : Int32)) B dX6_make_107 (by decide) ?_
  refine g_iload B dX6_make_108 6 rfl ?_
  refine g_iadd (v := (79 : Int32)) B dX6_make_110 (by decide) ?_
  refine g_istore_n (lv' := [(0, .ref hm), (1, .int (79 : Int32)), (2, .int (1 : Int32)), (3, .int (1 : Int32)), (4, .int (2 : Int32)), (5, .int (3 : Int32)), (6, .int (9 : Int32)), (7, .int (2 : Int32))]) B dX6_make_111 rfl (by decide) [1, 0, 2, 3, 4, 5, 6, 7] rfl ?_
  refine g_iinc (lv' := [(0, .ref hm), (1, .int (79 : Int32)), (2, .int (2 : Int32)), (3, .int (1 : Int32)), (4, .int (2 : Int32)), (5, .int (3 : Int32)), (6, .int (9 : Int32)), (7, .int (2 : Int32))]) B dX6_make_112 2 rfl (by decide) (by decide) [1, 2, 0, 3, 4, 5, 6, 7] rfl ?_
  refine g_goto (tgt := 4) B dX6_make_115 (by decide) ?_
  refine g_iload_n B dX6_make_4 2 rfl ?_
  refine g_iconst (v := (4 : Int32)) B dX6_make_5 (by decide) ?_
  refine g_icmp_ge (tgt := 118) B dX6_make_6 (by decide) (fun c13 => absurd c13 (by decide)) (fun _ => ?_)
  refine g_aload_n B dX6_make_9 0 rfl ?_
  refine g_get (C := RX6) (T := TX6) (N := 18) (ci := 6) B hK hin_X6_make_RX6 0 rfl rfl 7 (by decide) (List.mem_of_getElem? (i := 1) rfl) rfl (v := .ref m7) rfl dX6_make_10 ?_
  refine g_iconst (v := (3 : Int32)) B dX6_make_13 (by decide) ?_
  refine g_iload_n B dX6_make_14 2 rfl ?_
  refine g_imul (v := (6 : Int32)) B dX6_make_15 (by decide) ?_
  refine g_iald B hK 1 0 rfl rfl 6 rfl (by omega) (by omega) (v := (1 : Int32)) rfl dX6_make_16 ?_
  refine g_istore_n (lv' := [(0, .ref hm), (1, .int (79 : Int32)), (2, .int (2 : Int32)), (3, .int (1 : Int32)), (4, .int (2 : Int32)), (5, .int (3 : Int32)), (6, .int (9 : Int32)), (7, .int (2 : Int32))]) B dX6_make_17 rfl (by decide) [1, 2, 3, 0, 4, 5, 6, 7] rfl ?_
  refine g_iload_n B dX6_make_18 3 rfl ?_
  refine g_aload_n B dX6_make_19 0 rfl ?_
  refine g_get (C := RX6) (T := TX6) (N := 18) (ci := 6) B hK hin_X6_make_RX6 0 rfl rfl 7 (by decide) (List.mem_of_getElem? (i := 1) rfl) rfl (v := .ref m7) rfl dX6_make_20 ?_
  refine g_iconst (v := (3 : Int32)) B dX6_make_23 (by decide) ?_
  refine g_iload_n B dX6_make_24 2 rfl ?_
  refine g_imul (v := (6 : Int32)) B dX6_make_25 (by decide) ?_
  refine g_iconst (v := (1 : Int32)) B dX6_make_26 (by decide) ?_
  refine g_iadd (v := (7 : Int32)) B dX6_make_27 (by decide) ?_
  refine g_iald B hK 1 0 rfl rfl 7 rfl (by omega) (by omega) (v := (1 : Int32)) rfl dX6_make_28 ?_
  refine g_iadd (v := (2 : Int32)) B dX6_make_29 (by decide) ?_
  refine g_istore (lv' := [(0, .ref hm), (1, .int (79 : Int32)), (2, .int (2 : Int32)), (3, .int (1 : Int32)), (4, .int (2 : Int32)), (5, .int (3 : Int32)), (6, .int (9 : Int32)), (7, .int (2 : Int32))]) B dX6_make_30 (by decide) [1, 2, 3, 4, 0, 5, 6, 7] rfl ?_
  refine g_iload B dX6_make_32 4 rfl ?_
  refine g_aload_n B dX6_make_34 0 rfl ?_
  refine g_get (C := RX6) (T := TX6) (N := 18) (ci := 6) B hK hin_X6_make_RX6 0 rfl rfl 7 (by decide) (List.mem_of_getElem? (i := 1) rfl) rfl (v := .ref m7) rfl dX6_make_35 ?_
  refine g_iconst (v := (3 : Int32)) B dX6_make_38 (by decide) ?_
  refine g_iload_n B dX6_make_39 2 rfl ?_
  refine g_imul (v := (6 : Int32)) B dX6_make_40 (by decide) ?_
  refine g_iconst (v := (2 : Int32)) B dX6_make_41 (by decide) ?_
  refine g_iadd (v := (8 : Int32)) B dX6_make_42 (by decide) ?_
  refine g_iald B hK 1 0 rfl rfl 8 rfl (by omega) (by omega) (v := (1 : Int32)) rfl dX6_make_43 ?_
  refine g_iadd (v := (3 : Int32)) B dX6_make_44 (by decide) ?_
  refine g_istore (lv' := [(0, .ref hm), (1, .int (79 : Int32)), (2, .int (2 : Int32)), (3, .int (1 : Int32)), (4, .int (2 : Int32)), (5, .int (3 : Int32)), (6, .int (9 : Int32)), (7, .int (2 : Int32))]) B dX6_make_45 (by decide) [1, 2, 3, 4, 5, 0, 6, 7] rfl ?_
  refine g_iconst (v := (0 : Int32)) B dX6_make_47 (by decide) ?_
  refine g_istore (lv' := [(0, .ref hm), (1, .int (79 : Int32)), (2, .int (2 : Int32)), (3, .int (1 : Int32)), (4, .int (2 : Int32)), (5, .int (3 : Int32)), (6, .int (0 : Int32)), (7, .int (2 : Int32))]) B dX6_make_48 (by decide) [1, 2, 3, 4, 5, 6, 0, 7] rfl ?_
  refine g_iload B dX6_make_50 5 rfl ?_
  refine g_if_le (tgt := 104) B dX6_make_52 (by decide) (fun c14 => absurd c14 (by decide)) (fun _ => ?_)
  refine g_aload_n B dX6_make_55 0 rfl ?_
  refine g_iload B dX6_make_56 5 rfl ?_
  refine g_callW (w2 := (fun (_ : Unit) => [(hm, .inr (6, [.int th, .ref m1, .ref m2, .ref m3, .ref m4, .ref m5, .int (nI ((6293 * 421 + 1663) % 10000)), .ref m7, .int kn, .ref m9, .ref m10, .ref m11, .ref m12, .ref m13, .int rl, .ref m15, .ref m16, .ref m17])), (m7, .inl (cI, 12, .inl (fun _ => (1 : Int32))))])) (g_runV (q0 := 0) (ci := 6) B hK rfl rfl (r_drawn_3 l (D := D) (cI := cI) (cL := cL) (cZ := cZ) hm m1 m2 m3 m4 m5 m7 m9 m10 m11 m12 m13 m15 m16 m17 th kn rl 6293 (by omega)) (gPw.pre (av := [.ref hm, .int (3 : Int32)]) (wc := [(hm, .inr (6, [.int th, .ref m1, .ref m2, .ref m3, .ref m4, .ref m5, .int (6293 : Int32), .ref m7, .int kn, .ref m9, .ref m10, .ref m11, .ref m12, .ref m13, .int rl, .ref m15, .ref m16, .ref m17]))]) hK hN [0] rfl (by decide)) gX6_make_X6_drawn rfl rfl kd_X6_drawn ⟨by decide, by decide⟩ (st := []) rfl (Nat.le_of_ble_eq_true rfl) dX6_make_58 ⟨by decide, by decide⟩) hA (fun _ h => h) [0] [1] (wr := [(m7, .inl (cI, 12, .inl (fun _ => (1 : Int32))))]) rfl rfl (by decide) (by decide) [1, 0] (by decide) (fun _ => rfl) (fun u hu => ?_)
  refine g_eqw (w2 := [(hm, .inr (6, [.int th, .ref m1, .ref m2, .ref m3, .ref m4, .ref m5, .int (1016 : Int32), .ref m7, .int kn, .ref m9, .ref m10, .ref m11, .ref m12, .ref m13, .int rl, .ref m15, .ref m16, .ref m17])), (m7, .inl (cI, 12, .inl (fun _ => (1 : Int32))))]) rfl ?_
  refine g_eqi (y := (1 : Int32)) rfl ?_
  refine g_istore (lv' := [(0, .ref hm), (1, .int (79 : Int32)), (2, .int (2 : Int32)), (3, .int (1 : Int32)), (4, .int (2 : Int32)), (5, .int (3 : Int32)), (6, .int (0 : Int32)), (7, .int (1 : Int32))]) B dX6_make_61 (by decide) [1, 2, 3, 4, 5, 6, 7, 0] rfl ?_
  refine g_iload B dX6_make_63 7 rfl ?_
  refine g_iload_n B dX6_make_65 3 rfl ?_
  refine g_icmp_ge (tgt := 77) B dX6_make_66 (by decide) (fun _ => ?_) (fun c16 => absurd (by decide) c16)
  refine g_iload B dX6_make_77 7 rfl ?_
  refine g_iload B dX6_make_79 4 rfl ?_
  refine g_icmp_ge (tgt := 94) B dX6_make_81 (by decide) (fun c17 => absurd c17 (by decide)) (fun _ => ?_)
  refine g_iconst (v := (3 : Int32)) B dX6_make_84 (by decide) ?_
  refine g_aload_n B dX6_make_85 0 rfl ?_
  refine g_iconst (v := (4 : Int32)) B dX6_make_86 (by decide) ?_
  refine g_callW (w2 := (fun (_ : Unit) => [(hm, .inr (6, [.int th, .ref m1, .ref m2, .ref m3, .ref m4, .ref m5, .int (nI ((1016 * 421 + 1663) % 10000)), .ref m7, .int kn, .ref m9, .ref m10, .ref m11, .ref m12, .ref m13, .int rl, .ref m15, .ref m16, .ref m17])), (m7, .inl (cI, 12, .inl (fun _ => (1 : Int32))))])) (g_runV (q0 := 0) (ci := 6) B hK rfl rfl (r_drawn_4 l (D := D) (cI := cI) (cL := cL) (cZ := cZ) hm m1 m2 m3 m4 m5 m7 m9 m10 m11 m12 m13 m15 m16 m17 th kn rl 1016 (by omega)) (gPw.pre (av := [.ref hm, .int (4 : Int32)]) (wc := [(hm, .inr (6, [.int th, .ref m1, .ref m2, .ref m3, .ref m4, .ref m5, .int (1016 : Int32), .ref m7, .int kn, .ref m9, .ref m10, .ref m11, .ref m12, .ref m13, .int rl, .ref m15, .ref m16, .ref m17]))]) hK hN [0] rfl (by decide)) gX6_make_X6_drawn rfl rfl kd_X6_drawn ⟨by decide, by decide⟩ (st := [.int (3 : Int32)]) rfl (Nat.le_of_ble_eq_true rfl) dX6_make_87 ⟨by decide, by decide⟩) hA (fun _ h => h) [0] [1] (wr := [(m7, .inl (cI, 12, .inl (fun _ => (1 : Int32))))]) rfl rfl (by decide) (by decide) [1, 0] (by decide) (fun _ => rfl) (fun u hu => ?_)
  refine g_eqw (w2 := [(hm, .inr (6, [.int th, .ref m1, .ref m2, .ref m3, .ref m4, .ref m5, .int (9399 : Int32), .ref m7, .int kn, .ref m9, .ref m10, .ref m11, .ref m12, .ref m13, .int rl, .ref m15, .ref m16, .ref m17])), (m7, .inl (cI, 12, .inl (fun _ => (1 : Int32))))]) rfl ?_
  refine g_eqi (y := (1 : Int32)) rfl ?_
  refine g_iadd (v := (4 : Int32)) B dX6_make_90 (by decide) ?_
  refine g_goto (tgt := 102) B dX6_make_91 (by decide) ?_
  refine g_istore (lv' := [(0, .ref hm), (1, .int (79 : Int32)), (2, .int (2 : Int32)), (3, .int (1 : Int32)), (4, .int (2 : Int32)), (5, .int (3 : Int32)), (6, .int (4 : Int32)), (7, .int (1 : Int32))]) B dX6_make_102 (by decide) [1, 2, 3, 4, 5, 6, 0, 7] rfl ?_
  refine g_bipush (v := (10 : Int32)) B dX6_make_104 (by decide) ?_
  refine g_iload_n B dX6_make_106 1 rfl ?_
  refine g_imul (v := (790 : Int32)) B dX6_make_107 (by decide) ?_
  refine g_iload B dX6_make_108 6 rfl ?_
  refine g_iadd (v := (794 : Int32)) B dX6_make_110 (by decide) ?_
  refine g_istore_n (lv' := [(0, .ref hm), (1, .int (794 : Int32)), (2, .int (2 : Int32)), (3, .int (1 : Int32)), (4, .int (2 : Int32)), (5, .int (3 : Int32)), (6, .int (4 : Int32)), (7, .int (1 : Int32))]) B dX6_make_111 rfl (by decide) [1, 0, 2, 3, 4, 5, 6, 7] rfl ?_
  refine g_iinc (lv' := [(0, .ref hm), (1, .int (794 : Int32)), (2, .int (3 : Int32)), (3, .int (1 : Int32)), (4, .int (2 : Int32)), (5, .int (3 : Int32)), (6, .int (4 : Int32)), (7, .int (1 : Int32))]) B dX6_make_112 2 rfl (by decide) (by decide) [1, 2, 0, 3, 4, 5, 6, 7] rfl ?_
  refine g_goto (tgt := 4) B dX6_make_115 (by decide) ?_
  refine g_iload_n B dX6_make_4 2 rfl ?_
  refine g_iconst (v := (4 : Int32)) B dX6_make_5 (by decide) ?_
  refine g_icmp_ge (tgt := 118) B dX6_make_6 (by decide) (fun c19 => absurd c19 (by decide)) (fun _ => ?_)
  refine g_aload_n B dX6_make_9 0 rfl ?_
  refine g_get (C := RX6) (T := TX6) (N := 18) (ci := 6) B hK hin_X6_make_RX6 0 rfl rfl 7 (by decide) (List.mem_of_getElem? (i := 1) rfl) rfl (v := .ref m7) rfl dX6_make_10 ?_
  refine g_iconst (v := (3 : Int32)) B dX6_make_13 (by decide) ?_
  refine g_iload_n B dX6_make_14 2 rfl ?_
  refine g_imul (v := (9 : Int32)) B dX6_make_15 (by decide) ?_
  refine g_iald B hK 1 0 rfl rfl 9 rfl (by omega) (by omega) (v := (1 : Int32)) rfl dX6_make_16 ?_
  refine g_istore_n (lv' := [(0, .ref hm), (1, .int (794 : Int32)), (2, .int (3 : Int32)), (3, .int (1 : Int32)), (4, .int (2 : Int32)), (5, .int (3 : Int32)), (6, .int (4 : Int32)), (7, .int (1 : Int32))]) B dX6_make_17 rfl (by decide) [1, 2, 3, 0, 4, 5, 6, 7] rfl ?_
  refine g_iload_n B dX6_make_18 3 rfl ?_
  refine g_aload_n B dX6_make_19 0 rfl ?_
  refine g_get (C := RX6) (T := TX6) (N := 18) (ci := 6) B hK hin_X6_make_RX6 0 rfl rfl 7 (by decide) (List.mem_of_getElem? (i := 1) rfl) rfl (v := .ref m7) rfl dX6_make_20 ?_
  refine g_iconst (v := (3 : Int32)) B dX6_make_23 (by decide) ?_
  refine g_iload_n B dX6_make_24 2 rfl ?_
  refine g_imul (v := (9 : Int32)) B dX6_make_25 (by decide) ?_
  refine g_iconst (v := (1 : Int32)) B dX6_make_26 (by decide) ?_
  refine g_iadd (v := (10 : Int32)) B dX6_make_27 (by decide) ?_
  refine g_iald B hK 1 0 rfl rfl 10 rfl (by omega) (by omega) (v := (1 : Int32)) rfl dX6_make_28 ?_
  refine g_iadd (v := (2 : Int32)) B dX6_make_29 (by decide) ?_
  refine g_istore (lv' := [(0, .ref hm), (1, .int (794 : Int32)), (2, .int (3 : Int32)), (3, .int (1 : Int32)), (4, .int (2 : Int32)), (5, .int (3 : Int32)), (6, .int (4 : Int32)), (7, .int (1 : Int32))]) B dX6_make_30 (by decide) [1, 2, 3, 4, 0, 5, 6, 7] rfl ?_
  refine g_iload B dX6_make_32 4 rfl ?_
  refine g_aload_n B dX6_make_34 0 rfl ?_
  refine g_get (C := RX6) (T := TX6) (N := 18) (ci := 6) B hK hin_X6_make_RX6 0 rfl rfl 7 (by decide) (List.mem_of_getElem? (i := 1) rfl) rfl (v := .ref m7) rfl dX6_make_35 ?_
  refine g_iconst (v := (3 : Int32)) B dX6_make_38 (by decide) ?_
  refine g_iload_n B dX6_make_39 2 rfl ?_
  refine g_imul (v := (9 : Int32)) B dX6_make_40 (by decide) ?_
  refine g_iconst (v := (2 : Int32)) B dX6_make_41 (by decide) ?_
  refine g_iadd (v := (11 : Int32)) B dX6_make_42 (by decide) ?_
  refine g_iald B hK 1 0 rfl rfl 11 rfl (by omega) (by omega) (v := (1 : Int32)) rfl dX6_make_43 ?_
  refine g_iadd (v := (3 : Int32)) B dX6_make_44 (by decide) ?_
  refine g_istore (lv' := [(0, .ref hm), (1, .int (794 : Int32)), (2, .int (3 : Int32)), (3, .int (1 : Int32)), (4, .int (2 : Int32)), (5, .int (3 : Int32)), (6, .int (4 : Int32)), (7, .int (1 : Int32))]) B dX6_make_45 (by decide) [1, 2, 3, 4, 5, 0, 6, 7] rfl ?_
  refine g_iconst (v := (0 : Int32)) B dX6_make_47 (by decide) ?_
  refine g_istore (lv' := [(0, .ref hm), (1, .int (794 : Int32)), (2, .int (3 : Int32)), (3, .int (1 : Int32)), (4, .int (2 : Int32)), (5, .int (3 : Int32)), (6, .int (0 : Int32)), (7, .int (1 : Int32))]) B dX6_make_48 (by decide) [1, 2, 3, 4, 5, 6, 0, 7] rfl ?_
  refine g_iload B dX6_make_50 5 rfl ?_
  refine g_if_le (tgt := 104) B dX6_make_52 (by decide) (fun c20 => absurd c20 (by decide)) (fun _ => ?_)
  refine g_aload_n B dX6_make_55 0 rfl ?_
  refine g_iload B dX6_make_56 5 rfl ?_
  refine g_callW (w2 := (fun (_ : Unit) => [(hm, .inr (6, [.int th, .ref m1, .ref m2, .ref m3, .ref m4, .ref m5, .int (nI ((9399 * 421 + 1663) % 10000)), .ref m7, .int kn, .ref m9, .ref m10, .ref m11, .ref m12, .ref m13, .int rl, .ref m15, .ref m16, .ref m17])), (m7, .inl (cI, 12, .inl (fun _ => (1 : Int32))))])) (g_runV (q0 := 0) (ci := 6) B hK rfl rfl (r_drawn_3 l (D := D) (cI := cI) (cL := cL) (cZ := cZ) hm m1 m2 m3 m4 m5 m7 m9 m10 m11 m12 m13 m15 m16 m17 th kn rl 9399 (by omega)) (gPw.pre (av := [.ref hm, .int (3 : Int32)]) (wc := [(hm, .inr (6, [.int th, .ref m1, .ref m2, .ref m3, .ref m4, .ref m5, .int (9399 : Int32), .ref m7, .int kn, .ref m9, .ref m10, .ref m11, .ref m12, .ref m13, .int rl, .ref m15, .ref m16, .ref m17]))]) hK hN [0] rfl (by decide)) gX6_make_X6_drawn rfl rfl kd_X6_drawn ⟨by decide, by decide⟩ (st := []) rfl (Nat.le_of_ble_eq_true rfl) dX6_make_58 ⟨by decide, by decide⟩) hA (fun _ h => h) [0] [1] (wr := [(m7, .inl (cI, 12, .inl (fun _ => (1 : Int32))))]) rfl rfl (by decide) (by decide) [1, 0] (by decide) (fun _ => rfl) (fun u hu => ?_)
  refine g_eqw (w2 := [(hm, .inr (6, [.int th, .ref m1, .ref m2, .ref m3, .ref m4, .ref m5, .int (8642 : Int32), .ref m7, .int kn, .ref m9, .ref m10, .ref m11, .ref m12, .ref m13, .int rl, .ref m15, .ref m16, .ref m17])), (m7, .inl (cI, 12, .inl (fun _ => (1 : Int32))))]) rfl ?_
  refine g_eqi (y := (2 : Int32)) rfl ?_
  refine g_istore (lv' := [(0, .ref hm), (1, .int (794 : Int32)), (2, .int (3 : Int32)), (3, .int (1 : Int32)), (4, .int (2 : Int32)), (5, .int (3 : Int32)), (6, .int (0 : Int32)), (7, .int (2 : Int32))]) B dX6_make_61 (by decide) [1, 2, 3, 4, 5, 6, 7, 0] rfl ?_
  refine g_iload B dX6_make_63 7 rfl ?_
  refine g_iload_n B dX6_make_65 3 rfl ?_
  refine g_icmp_ge (tgt := 77) B dX6_make_66 (by decide) (fun _ => ?_) (fun c22 => absurd (by decide) c22)
  refine g_iload B dX6_make_77 7 rfl ?_
  refine g_iload B dX6_make_79 4 rfl ?_
  refine g_icmp_ge (tgt := 94) B dX6_make_81 (by decide) (fun _ => ?_) (fun c23 => absurd (by decide) c23)
  refine g_bipush (v := (7 : Int32)) B dX6_make_94 (by decide) ?_
  refine g_aload_n B dX6_make_96 0 rfl ?_
  refine g_iconst (v := (3 : Int32)) B dX6_make_97 (by decide) ?_
  refine g_callW (w2 := (fun (_ : Unit) => [(hm, .inr (6, [.int th, .ref m1, .ref m2, .ref m3, .ref m4, .ref m5, .int (nI ((8642 * 421 + 1663) % 10000)), .ref m7, .int kn, .ref m9, .ref m10, .ref m11, .ref m12, .ref m13, .int rl, .ref m15, .ref m16, .ref m17])), (m7, .inl (cI, 12, .inl (fun _ => (1 : Int32))))])) (g_runV (q0 := 0) (ci := 6) B hK rfl rfl (r_drawn_3 l (D := D) (cI := cI) (cL := cL) (cZ := cZ) hm m1 m2 m3 m4 m5 m7 m9 m10 m11 m12 m13 m15 m16 m17 th kn rl 8642 (by omega)) (gPw.pre (av := [.ref hm, .int (3 : Int32)]) (wc := [(hm, .inr (6, [.int th, .ref m1, .ref m2, .ref m3, .ref m4, .ref m5, .int (8642 : Int32), .ref m7, .int kn, .ref m9, .ref m10, .ref m11, .ref m12, .ref m13, .int rl, .ref m15, .ref m16, .ref m17]))]) hK hN [0] rfl (by decide)) gX6_make_X6_drawn rfl rfl kd_X6_drawn ⟨by decide, by decide⟩ (st := [.int (7 : Int32)]) rfl (Nat.le_of_ble_eq_true rfl) dX6_make_98 ⟨by decide, by decide⟩) hA (fun _ h => h) [0] [1] (wr := [(m7, .inl (cI, 12, .inl (fun _ => (1 : Int32))))]) rfl rfl (by decide) (by decide) [1, 0] (by decide) (fun _ => rfl) (fun u hu => ?_)
  refine g_eqw (w2 := [(hm, .inr (6, [.int th, .ref m1, .ref m2, .ref m3, .ref m4, .ref m5, .int (9945 : Int32), .ref m7, .int kn, .ref m9, .ref m10, .ref m11, .ref m12, .ref m13, .int rl, .ref m15, .ref m16, .ref m17])), (m7, .inl (cI, 12, .inl (fun _ => (1 : Int32))))]) rfl ?_
  refine g_eqi (y := (0 : Int32)) rfl ?_
  refine g_iadd (v := (7 : Int32)) B dX6_make_101 (by decide) ?_
  refine g_istore (lv' := [(0, .ref hm), (1, .int (794 : Int32)), (2, .int (3 : Int32)), (3, .int (1 : Int32)), (4, .int (2 : Int32)), (5, .int (3 : Int32)), (6, .int (7 : Int32)), (7, .int (2 : Int32))]) B dX6_make_102 (by decide) [1, 2, 3, 4, 5, 6, 0, 7] rfl ?_
  refine g_bipush (v := (10 : Int32)) B dX6_make_104 (by decide) ?_
  refine g_iload_n B dX6_make_106 1 rfl ?_
  refine g_imul (v := (7940 : Int32)) B dX6_make_107 (by decide) ?_
  refine g_iload B dX6_make_108 6 rfl ?_
  refine g_iadd (v := (7947 : Int32)) B dX6_make_110 (by decide) ?_
  refine g_istore_n (lv' := [(0, .ref hm), (1, .int (7947 : Int32)), (2, .int (3 : Int32)), (3, .int (1 : Int32)), (4, .int (2 : Int32)), (5, .int (3 : Int32)), (6, .int (7 : Int32)), (7, .int (2 : Int32))]) B dX6_make_111 rfl (by decide) [1, 0, 2, 3, 4, 5, 6, 7] rfl ?_
  refine g_iinc (lv' := [(0, .ref hm), (1, .int (7947 : Int32)), (2, .int (4 : Int32)), (3, .int (1 : Int32)), (4, .int (2 : Int32)), (5, .int (3 : Int32)), (6, .int (7 : Int32)), (7, .int (2 : Int32))]) B dX6_make_112 2 rfl (by decide) (by decide) [1, 2, 0, 3, 4, 5, 6, 7] rfl ?_
  refine g_goto (tgt := 4) B dX6_make_115 (by decide) ?_
  refine g_iload_n B dX6_make_4 2 rfl ?_
  refine g_iconst (v := (4 : Int32)) B dX6_make_5 (by decide) ?_
  refine g_icmp_ge (tgt := 118) B dX6_make_6 (by decide) (fun _ => ?_) (fun c25 => absurd (by decide) c25)
  refine g_iload_n B dX6_make_118 1 rfl ?_
  exact g_iret_w B hr rfl hlocks () (rfl) (trivial) [0, 1] (by decide) rfl dX6_make_119

set_option maxHeartbeats 4000000 in
set_option maxRecDepth 100000 in
theorem r_make_n (l : Launch) {D : va_G} {cI cL cZ : ClassId} (hm : Nat) (m1 : Nat) (m2 : Nat) (m3 : Nat) (m4 : Nat) (m5 : Nat) (m7 : Nat) (m9 : Nat) (m10 : Nat) (m11 : Nat) (m12 : Nat) (m13 : Nat) (m15 : Nat) (m16 : Nat) (m17 : Nat) (th : Int32) (kn : Int32) (rl : Int32) (sd : Nat) (hs : sd < 10000) : WM l yX6_make wsX6_make ({ frames := 1, cells := 0, slots := 0, locals := 21 } : Room) D (gTys cI cL cZ) [.ref hm] [(hm, .inr (6, [.int th, .ref m1, .ref m2, .ref m3, .ref m4, .ref m5, .int (nI sd), .ref m7, .int kn, .ref m9, .ref m10, .ref m11, .ref m12, .ref m13, .int rl, .ref m15, .ref m16, .ref m17])), (m7, .inl (cI, 12, .inl (fun _ => (1 : Int32))))] (fun (q : Nat × Nat) => q.1 < 10000 ∧ q.2 < 10000) (fun (q : Nat × Nat) => some (.int (nI q.1))) (fun (q : Nat × Nat) => [(hm, .inr (6, [.int th, .ref m1, .ref m2, .ref m3, .ref m4, .ref m5, .int (nI q.2), .ref m7, .int kn, .ref m9, .ref m10, .ref m11, .ref m12, .ref m13, .int rl, .ref m15, .ref m16, .ref m17])), (m7, .inl (cI, 12, .inl (fun _ => (1 : Int32))))]) := by
  refine WM.ofG cX6_make 8 (some .int) (by decide +kernel) rfl (Nat.le_of_ble_eq_true rfl) ?_
  intro p e s m below meth c A hA B hr hlocks hname hK hN
  refine g_iconst (v := (0 : Int32)) B dX6_make_0 (by decide) ?_
  refine g_istore_n (lv' := [(0, .ref hm), (1, .int (0 : Int32))]) B dX6_make_1 rfl (by decide) [1, 0] rfl ?_
  refine g_iconst (v := (0 : Int32)) B dX6_make_2 (by decide) ?_
  refine g_istore_n (lv' := [(0, .ref hm), (1, .int (0 : Int32)), (2, .int (0 : Int32))]) B dX6_make_3 rfl (by decide) [1, 2, 0] rfl ?_
  refine g_loop (σ := Nat × Nat × Nat) (fun x9 => x9.1 ≤ 4 ∧ x9.2.2 < 10000 ∧ ((x9.1 = 0 ∧ x9.2.1 = 0) ∨ (x9.1 = 1 ∧ x9.2.1 < 10) ∨ (x9.1 = 2 ∧ x9.2.1 < 100) ∨ (x9.1 = 3 ∧ x9.2.1 < 1000) ∨ (x9.1 = 4 ∧ x9.2.1 < 10000))) (fun x9 => 5 - x9.1) (fun x9 => 0) (fun x9 => 0) (fun x9 => [(hm, .inr (6, [.int th, .ref m1, .ref m2, .ref m3, .ref m4, .ref m5, .int (nI x9.2.2), .ref m7, .int kn, .ref m9, .ref m10, .ref m11, .ref m12, .ref m13, .int rl, .ref m15, .ref m16, .ref m17])), (m7, .inl (cI, 12, .inl (fun _ => (1 : Int32))))]) (fun x9 => [(0, .ref hm), (1, .int (nI x9.2.1)), (2, .int (nI x9.1))]) (fun x9 hI ih4 => ?_) (0, 0, sd) (by (try dsimp only); omega) rfl rfl rfl rfl
  obtain ⟨k, cc, sd1⟩ := x9
  try dsimp only at hI ih4 ⊢
  refine g_iload_n B dX6_make_4 2 rfl ?_
  refine g_iconst (v := (4 : Int32)) B dX6_make_5 (by decide) ?_
  refine g_ncmp_ge (tgt := 118) B k 4 rfl rfl (by omega) (by omega) dX6_make_6 (by decide) (fun c1 => ?_) (fun c1 => ?_)
  · refine g_iload_n B dX6_make_118 1 rfl ?_
    exact g_iret_w B hr rfl hlocks (cc, sd1) (rfl) (by dsimp only; omega) [0, 1] (by decide) rfl dX6_make_119
  · refine g_aload_n B dX6_make_9 0 rfl ?_
    refine g_get (C := RX6) (T := TX6) (N := 18) (ci := 6) B hK hin_X6_make_RX6 0 rfl rfl 7 (by decide) (List.mem_of_getElem? (i := 1) rfl) rfl (v := .ref m7) rfl dX6_make_10 ?_
    refine g_iconst (v := (3 : Int32)) B dX6_make_13 (by decide) ?_
    refine g_iload_n B dX6_make_14 2 rfl ?_
    refine g_imul (v := nI (3 * k)) B dX6_make_15 (pk_mul 3 k) ?_
    refine g_iald B hK 1 0 rfl rfl (3 * k) rfl (by omega) (by omega) (v := (1 : Int32)) rfl dX6_make_16 ?_
    refine g_istore_n (lv' := [(0, .ref hm), (1, .int (nI cc)), (2, .int (nI k)), (3, .int (1 : Int32))]) B dX6_make_17 rfl (by decide) [1, 2, 3, 0] rfl ?_
    refine g_iload_n B dX6_make_18 3 rfl ?_
    refine g_aload_n B dX6_make_19 0 rfl ?_
    refine g_get (C := RX6) (T := TX6) (N := 18) (ci := 6) B hK hin_X6_make_RX6 0 rfl rfl 7 (by decide) (List.mem_of_getElem? (i := 1) rfl) rfl (v := .ref m7) rfl dX6_make_20 ?_
    refine g_iconst (v := (3 : Int32)) B dX6_make_23 (by decide) ?_
    refine g_iload_n B dX6_make_24 2 rfl ?_
    refine g_imul (v := nI (3 * k)) B dX6_make_25 (pk_mul 3 k) ?_
    refine g_iconst (v := (1 : Int32)) B dX6_make_26 (by decide) ?_
    refine g_iadd (v := nI ((3 * k) + 1)) B dX6_make_27 (nI_add (3 * k) 1) ?_
    refine g_iald B hK 1 0 rfl rfl ((3 * k) + 1) rfl (by omega) (by omega) (v := (1 : Int32)) rfl dX6_make_28 ?_
    refine g_iadd (v := (2 : Int32)) B dX6_make_29 (by decide) ?_
    refine g_istore (lv' := [(0, .ref hm), (1, .int (nI cc)), (2, .int (nI k)), (3, .int (1 : Int32)), (4, .int (2 : Int32))]) B dX6_make_30 (by decide) [1, 2, 3, 4, 0] rfl ?_
    refine g_iload B dX6_make_32 4 rfl ?_
    refine g_aload_n B dX6_make_34 0 rfl ?_
    refine g_get (C := RX6) (T := TX6) (N := 18) (ci := 6) B hK hin_X6_make_RX6 0 rfl rfl 7 (by decide) (List.mem_of_getElem? (i := 1) rfl) rfl (v := .ref m7) rfl dX6_make_35 ?_
    refine g_iconst (v := (3 : Int32)) B dX6_make_38 (by decide) ?_
    refine g_iload_n B dX6_make_39 2 rfl ?_
    refine g_imul (v := nI (3 * k)) B dX6_make_40 (pk_mul 3 k) ?_
    refine g_iconst (v := (2 : Int32)) B dX6_make_41 (by decide) ?_
    refine g_iadd (v := nI ((3 * k) + 2)) B dX6_make_42 (nI_add (3 * k) 2) ?_
    refine g_iald B hK 1 0 rfl rfl ((3 * k) + 2) rfl (by omega) (by omega) (v := (1 : Int32)) rfl dX6_make_43 ?_
    refine g_iadd (v := (3 : Int32)) B dX6_make_44 (by decide) ?_
    refine g_istore (lv' := [(0, .ref hm), (1, .int (nI cc)), (2, .int (nI k)), (3, .int (1 : Int32)), (4, .int (2 : Int32)), (5, .int (3 : Int32))]) B dX6_make_45 (by decide) [1, 2, 3, 4, 5, 0] rfl ?_
    refine g_iconst (v := (0 : Int32)) B dX6_make_47 (by decide) ?_
    refine g_istore (lv' := [(0, .ref hm), (1, .int (nI cc)), (2, .int (nI k)), (3, .int (1 : Int32)), (4, .int (2 : Int32)), (5, .int (3 : Int32)), (6, .int (0 : Int32))]) B dX6_make_48 (by decide) [1, 2, 3, 4, 5, 6, 0] rfl ?_
    refine g_iload B dX6_make_50 5 rfl ?_
    refine g_if_le (tgt := 104) B dX6_make_52 (by decide) (fun c2 => absurd c2 (by decide)) (fun _ => ?_)
    refine g_aload_n B dX6_make_55 0 rfl ?_
    refine g_iload B dX6_make_56 5 rfl ?_
    refine g_callW (w2 := (fun (_ : Unit) => [(hm, .inr (6, [.int th, .ref m1, .ref m2, .ref m3, .ref m4, .ref m5, .int (nI ((sd1 * 421 + 1663) % 10000)), .ref m7, .int kn, .ref m9, .ref m10, .ref m11, .ref m12, .ref m13, .int rl, .ref m15, .ref m16, .ref m17])), (m7, .inl (cI, 12, .inl (fun _ => (1 : Int32))))])) (g_runV (q0 := 0) (ci := 6) B hK rfl rfl (r_drawn_3 l (D := D) (cI := cI) (cL := cL) (cZ := cZ) hm m1 m2 m3 m4 m5 m7 m9 m10 m11 m12 m13 m15 m16 m17 th kn rl sd1 (by omega)) (gPw.pre (av := [.ref hm, .int (3 : Int32)]) (wc := [(hm, .inr (6, [.int th, .ref m1, .ref m2, .ref m3, .ref m4, .ref m5, .int (nI sd1), .ref m7, .int kn, .ref m9, .ref m10, .ref m11, .ref m12, .ref m13, .int rl, .ref m15, .ref m16, .ref m17]))]) hK hN [0] rfl (by decide)) gX6_make_X6_drawn rfl rfl kd_X6_drawn ⟨by decide, by decide⟩ (st := []) rfl (Nat.le_of_ble_eq_true rfl) dX6_make_58 ⟨by decide, by decide⟩) hA (fun _ h => h) [0] [1] (wr := [(m7, .inl (cI, 12, .inl (fun _ => (1 : Int32))))]) rfl rfl (by decide) (by decide) [1, 0] (by decide) (fun _ => rfl) (fun u hu => ?_)
    refine g_istore (lv' := [(0, .ref hm), (1, .int (nI cc)), (2, .int (nI k)), (3, .int (1 : Int32)), (4, .int (2 : Int32)), (5, .int (3 : Int32)), (6, .int (0 : Int32)), (7, .int (nI ((sd1 * 421 + 1663) % 10000 / 100 % 3)))]) B dX6_make_61 (by decide) [1, 2, 3, 4, 5, 6, 7, 0] rfl ?_
    refine g_iload B dX6_make_63 7 rfl ?_
    refine g_iload_n B dX6_make_65 3 rfl ?_
    refine g_ncmp_ge (tgt := 77) B ((sd1 * 421 + 1663) % 10000 / 100 % 3) 1 rfl rfl (by omega) (by omega) dX6_make_66 (by decide) (fun c4 => ?_) (fun c4 => ?_)
    · refine g_iload B dX6_make_77 7 rfl ?_
      refine g_iload B dX6_make_79 4 rfl ?_
      refine g_ncmp_ge (tgt := 94) B ((sd1 * 421 + 1663) % 10000 / 100 % 3) 2 rfl rfl (by omega) (by omega) dX6_make_81 (by decide) (fun c5 => ?_) (fun c5 => ?_)
      · refine g_bipush (v := (7 : Int32)) B dX6_make_94 (by decide) ?_
        refine g_aload_n B dX6_make_96 0 rfl ?_
        refine g_iconst (v := (3 : Int32)) B dX6_make_97 (by decide) ?_
        refine g_callW (w2 := (fun (_ : Unit) => [(hm, .inr (6, [.int th, .ref m1, .ref m2, .ref m3, .ref m4, .ref m5, .int (nI ((((sd1 * 421 + 1663) % 10000) * 421 + 1663) % 10000)), .ref m7, .int kn, .ref m9, .ref m10, .ref m11, .ref m12, .ref m13, .int rl, .ref m15, .ref m16, .ref m17])), (m7, .inl (cI, 12, .inl (fun _ => (1 : Int32))))])) (g_runV (q0 := 0) (ci := 6) B hK rfl rfl (r_drawn_3 l (D := D) (cI := cI) (cL := cL) (cZ := cZ) hm m1 m2 m3 m4 m5 m7 m9 m10 m11 m12 m13 m15 m16 m17 th kn rl ((sd1 * 421 + 1663) % 10000) (by omega)) (gPw.pre (av := [.ref hm, .int (3 : Int32)]) (wc := [(hm, .inr (6, [.int th, .ref m1, .ref m2, .ref m3, .ref m4, .ref m5, .int (nI ((sd1 * 421 + 1663) % 10000)), .ref m7, .int kn, .ref m9, .ref m10, .ref m11, .ref m12, .ref m13, .int rl, .ref m15, .ref m16, .ref m17]))]) hK hN [0] rfl (by decide)) gX6_make_X6_drawn rfl rfl kd_X6_drawn ⟨by decide, by decide⟩ (st := [.int (7 : Int32)]) rfl (Nat.le_of_ble_eq_true rfl) dX6_make_98 ⟨by decide, by decide⟩) hA (fun _ h => h) [0] [1] (wr := [(m7, .inl (cI, 12, .inl (fun _ => (1 : Int32))))]) rfl rfl (by decide) (by decide) [1, 0] (by decide) (fun _ => rfl) (fun u hu => ?_)
        refine g_iadd (v := nI (7 + (((sd1 * 421 + 1663) % 10000 * 421 + 1663) % 10000 / 100 % 3))) B dX6_make_101 (nI_add 7 (((sd1 * 421 + 1663) % 10000 * 421 + 1663) % 10000 / 100 % 3)) ?_
        refine g_istore (lv' := [(0, .ref hm), (1, .int (nI cc)), (2, .int (nI k)), (3, .int (1 : Int32)), (4, .int (2 : Int32)), (5, .int (3 : Int32)), (6, .int (nI (7 + (((sd1 * 421 + 1663) % 10000 * 421 + 1663) % 10000 / 100 % 3)))), (7, .int (nI ((sd1 * 421 + 1663) % 10000 / 100 % 3)))]) B dX6_make_102 (by decide) [1, 2, 3, 4, 5, 6, 0, 7] rfl ?_
        refine g_bipush (v := (10 : Int32)) B dX6_make_104 (by decide) ?_
        refine g_iload_n B dX6_make_106 1 rfl ?_
        refine g_imul (v := nI (10 * cc)) B dX6_make_107 (pk_mul 10 cc) ?_
        refine g_iload B dX6_make_108 6 rfl ?_
        refine g_iadd (v := nI ((10 * cc) + (7 + (((sd1 * 421 + 1663) % 10000 * 421 + 1663) % 10000 / 100 % 3)))) B dX6_make_110 (nI_add (10 * cc) (7 + (((sd1 * 421 + 1663) % 10000 * 421 + 1663) % 10000 / 100 % 3))) ?_
        refine g_istore_n (lv' := [(0, .ref hm), (1, .int (nI ((10 * cc) + (7 + (((sd1 * 421 + 1663) % 10000 * 421 + 1663) % 10000 / 100 % 3))))), (2, .int (nI k)), (3, .int (1 : Int32)), (4, .int (2 : Int32)), (5, .int (3 : Int32)), (6, .int (nI (7 + (((sd1 * 421 + 1663) % 10000 * 421 + 1663) % 10000 / 100 % 3)))), (7, .int (nI ((sd1 * 421 + 1663) % 10000 / 100 % 3)))]) B dX6_make_111 rfl (by decide) [1, 0, 2, 3, 4, 5, 6, 7] rfl ?_
        refine g_iinc (lv' := [(0, .ref hm), (1, .int (nI ((10 * cc) + (7 + (((sd1 * 421 + 1663) % 10000 * 421 + 1663) % 10000 / 100 % 3))))), (2, .int (nI (k + 1))), (3, .int (1 : Int32)), (4, .int (2 : Int32)), (5, .int (3 : Int32)), (6, .int (nI (7 + (((sd1 * 421 + 1663) % 10000 * 421 + 1663) % 10000 / 100 % 3)))), (7, .int (nI ((sd1 * 421 + 1663) % 10000 / 100 % 3)))]) B dX6_make_112 2 rfl (nI_1 k) (by decide) [1, 2, 0, 3, 4, 5, 6, 7] rfl ?_
        refine g_goto (tgt := 4) B dX6_make_115 (by decide) ?_
        exact g_pick [0, 1, 2] rfl (ih4 (k + 1, (10 * cc) + (7 + (((sd1 * 421 + 1663) % 10000 * 421 + 1663) % 10000 / 100 % 3)), (((sd1 * 421 + 1663) % 10000) * 421 + 1663) % 10000) (by (try dsimp only); omega) (by (try dsimp only); omega))
      · refine g_iconst (v := (3 : Int32)) B dX6_make_84 (by decide) ?_
        refine g_aload_n B dX6_make_85 0 rfl ?_
        refine g_iconst (v := (4 : Int32)) B dX6_make_86 (by decide) ?_
        refine g_callW (w2 := (fun (_ : Unit) => [(hm, .inr (6, [.int th, .ref m1, .ref m2, .ref m3, .ref m4, .ref m5, .int (nI ((((sd1 * 421 + 1663) % 10000) * 421 + 1663) % 10000)), .ref m7, .int kn, .ref m9, .ref m10, .ref m11, .ref m12, .ref m13, .int rl, .ref m15, .ref m16, .ref m17])), (m7, .inl (cI, 12, .inl (fun _ => (1 : Int32))))])) (g_runV (q0 := 0) (ci := 6) B hK rfl rfl (r_drawn_4 l (D := D) (cI := cI) (cL := cL) (cZ := cZ) hm m1 m2 m3 m4 m5 m7 m9 m10 m11 m12 m13 m15 m16 m17 th kn rl ((sd1 * 421 + 1663) % 10000) (by omega)) (gPw.pre (av := [.ref hm, .int (4 : Int32)]) (wc := [(hm, .inr (6, [.int th, .ref m1, .ref m2, .ref m3, .ref m4, .ref m5, .int (nI ((sd1 * 421 + 1663) % 10000)), .ref m7, .int kn, .ref m9, .ref m10, .ref m11, .ref m12, .ref m13, .int rl, .ref m15, .ref m16, .ref m17]))]) hK hN [0] rfl (by decide)) gX6_make_X6_drawn rfl rfl kd_X6_drawn ⟨by decide, by decide⟩ (st := [.int (3 : Int32)]) rfl (Nat.le_of_ble_eq_true rfl) dX6_make_87 ⟨by decide, by decide⟩) hA (fun _ h => h) [0] [1] (wr := [(m7, .inl (cI, 12, .inl (fun _ => (1 : Int32))))]) rfl rfl (by decide) (by decide) [1, 0] (by decide) (fun _ => rfl) (fun u hu => ?_)
        refine g_iadd (v := nI (3 + (((sd1 * 421 + 1663) % 10000 * 421 + 1663) % 10000 / 100 % 4))) B dX6_make_90 (nI_add 3 (((sd1 * 421 + 1663) % 10000 * 421 + 1663) % 10000 / 100 % 4)) ?_
        refine g_goto (tgt := 102) B dX6_make_91 (by decide) ?_
        refine g_istore (lv' := [(0, .ref hm), (1, .int (nI cc)), (2, .int (nI k)), (3, .int (1 : Int32)), (4, .int (2 : Int32)), (5, .int (3 : Int32)), (6, .int (nI (3 + (((sd1 * 421 + 1663) % 10000 * 421 + 1663) % 10000 / 100 % 4)))), (7, .int (nI ((sd1 * 421 + 1663) % 10000 / 100 % 3)))]) B dX6_make_102 (by decide) [1, 2, 3, 4, 5, 6, 0, 7] rfl ?_
        refine g_bipush (v := (10 : Int32)) B dX6_make_104 (by decide) ?_
        refine g_iload_n B dX6_make_106 1 rfl ?_
        refine g_imul (v := nI (10 * cc)) B dX6_make_107 (pk_mul 10 cc) ?_
        refine g_iload B dX6_make_108 6 rfl ?_
        refine g_iadd (v := nI ((10 * cc) + (3 + (((sd1 * 421 + 1663) % 10000 * 421 + 1663) % 10000 / 100 % 4)))) B dX6_make_110 (nI_add (10 * cc) (3 + (((sd1 * 421 + 1663) % 10000 * 421 + 1663) % 10000 / 100 % 4))) ?_
        refine g_istore_n (lv' := [(0, .ref hm), (1, .int (nI ((10 * cc) + (3 + (((sd1 * 421 + 1663) % 10000 * 421 + 1663) % 10000 / 100 % 4))))), (2, .int (nI k)), (3, .int (1 : Int32)), (4, .int (2 : Int32)), (5, .int (3 : Int32)), (6, .int (nI (3 + (((sd1 * 421 + 1663) % 10000 * 421 + 1663) % 10000 / 100 % 4)))), (7, .int (nI ((sd1 * 421 + 1663) % 10000 / 100 % 3)))]) B dX6_make_111 rfl (by decide) [1, 0, 2, 3, 4, 5, 6, 7] rfl ?_
        refine g_iinc (lv' := [(0, .ref hm), (1, .int (nI ((10 * cc) + (3 + (((sd1 * 421 + 1663) % 10000 * 421 + 1663) % 10000 / 100 % 4))))), (2, .int (nI (k + 1))), (3, .int (1 : Int32)), (4, .int (2 : Int32)), (5, .int (3 : Int32)), (6, .int (nI (3 + (((sd1 * 421 + 1663) % 10000 * 421 + 1663) % 10000 / 100 % 4)))), (7, .int (nI ((sd1 * 421 + 1663) % 10000 / 100 % 3)))]) B dX6_make_112 2 rfl (nI_1 k) (by decide) [1, 2, 0, 3, 4, 5, 6, 7] rfl ?_
        refine g_goto (tgt := 4) B dX6_make_115 (by decide) ?_
        exact g_pick [0, 1, 2] rfl (ih4 (k + 1, (10 * cc) + (3 + (((sd1 * 421 + 1663) % 10000 * 421 + 1663) % 10000 / 100 % 4)), (((sd1 * 421 + 1663) % 10000) * 421 + 1663) % 10000) (by (try dsimp only); omega) (by (try dsimp only); omega))
    · refine g_aload_n B dX6_make_69 0 rfl ?_
      refine g_iconst (v := (3 : Int32)) B dX6_make_70 (by decide) ?_
      refine g_callW (w2 := (fun (_ : Unit) => [(hm, .inr (6, [.int th, .ref m1, .ref m2, .ref m3, .ref m4, .ref m5, .int (nI ((((sd1 * 421 + 1663) % 10000) * 421 + 1663) % 10000)), .ref m7, .int kn, .ref m9, .ref m10, .ref m11, .ref m12, .ref m13, .int rl, .ref m15, .ref m16, .ref m17])), (m7, .inl (cI, 12, .inl (fun _ => (1 : Int32))))])) (g_runV (q0 := 0) (ci := 6) B hK rfl rfl (r_drawn_3 l (D := D) (cI := cI) (cL := cL) (cZ := cZ) hm m1 m2 m3 m4 m5 m7 m9 m10 m11 m12 m13 m15 m16 m17 th kn rl ((sd1 * 421 + 1663) % 10000) (by omega)) (gPw.pre (av := [.ref hm, .int (3 : Int32)]) (wc := [(hm, .inr (6, [.int th, .ref m1, .ref m2, .ref m3, .ref m4, .ref m5, .int (nI ((sd1 * 421 + 1663) % 10000)), .ref m7, .int kn, .ref m9, .ref m10, .ref m11, .ref m12, .ref m13, .int rl, .ref m15, .ref m16, .ref m17]))]) hK hN [0] rfl (by decide)) gX6_make_X6_drawn rfl rfl kd_X6_drawn ⟨by decide, by decide⟩ (st := []) rfl (Nat.le_of_ble_eq_true rfl) dX6_make_71 ⟨by decide, by decide⟩) hA (fun _ h => h) [0] [1] (wr := [(m7, .inl (cI, 12, .inl (fun _ => (1 : Int32))))]) rfl rfl (by decide) (by decide) [1, 0] (by decide) (fun _ => rfl) (fun u hu => ?_)
      refine g_goto (tgt := 102) B dX6_make_74 (by decide) ?_
      refine g_istore (lv' := [(0, .ref hm), (1, .int (nI cc)), (2, .int (nI k)), (3, .int (1 : Int32)), (4, .int (2 : Int32)), (5, .int (3 : Int32)), (6, .int (nI (((sd1 * 421 + 1663) % 10000 * 421 + 1663) % 10000 / 100 % 3))), (7, .int (nI ((sd1 * 421 + 1663) % 10000 / 100 % 3)))]) B dX6_make_102 (by decide) [1, 2, 3, 4, 5, 6, 0, 7] rfl ?_
      refine g_bipush (v := (10 : Int32)) B dX6_make_104 (by decide) ?_
      refine g_iload_n B dX6_make_106 1 rfl ?_
      refine g_imul (v := nI (10 * cc)) B dX6_make_107 (pk_mul 10 cc) ?_
      refine g_iload B dX6_make_108 6 rfl ?_
      refine g_iadd (v := nI ((10 * cc) + (((sd1 * 421 + 1663) % 10000 * 421 + 1663) % 10000 / 100 % 3))) B dX6_make_110 (nI_add (10 * cc) (((sd1 * 421 + 1663) % 10000 * 421 + 1663) % 10000 / 100 % 3)) ?_
      refine g_istore_n (lv' := [(0, .ref hm), (1, .int (nI ((10 * cc) + (((sd1 * 421 + 1663) % 10000 * 421 + 1663) % 10000 / 100 % 3)))), (2, .int (nI k)), (3, .int (1 : Int32)), (4, .int (2 : Int32)), (5, .int (3 : Int32)), (6, .int (nI (((sd1 * 421 + 1663) % 10000 * 421 + 1663) % 10000 / 100 % 3))), (7, .int (nI ((sd1 * 421 + 1663) % 10000 / 100 % 3)))]) B dX6_make_111 rfl (by decide) [1, 0, 2, 3, 4, 5, 6, 7] rfl ?_
      refine g_iinc (lv' := [(0, .ref hm), (1, .int (nI ((10 * cc) + (((sd1 * 421 + 1663) % 10000 * 421 + 1663) % 10000 / 100 % 3)))), (2, .int (nI (k + 1))), (3, .int (1 : Int32)), (4, .int (2 : Int32)), (5, .int (3 : Int32)), (6, .int (nI (((sd1 * 421 + 1663) % 10000 * 421 + 1663) % 10000 / 100 % 3))), (7, .int (nI ((sd1 * 421 + 1663) % 10000 / 100 % 3)))]) B dX6_make_112 2 rfl (nI_1 k) (by decide) [1, 2, 0, 3, 4, 5, 6, 7] rfl ?_
      refine g_goto (tgt := 4) B dX6_make_115 (by decide) ?_
      exact g_pick [0, 1, 2] rfl (ih4 (k + 1, (10 * cc) + (((sd1 * 421 + 1663) % 10000 * 421 + 1663) % 10000 / 100 % 3), (((sd1 * 421 + 1663) % 10000) * 421 + 1663) % 10000) (by (try dsimp only); omega) (by (try dsimp only); omega))

set_option maxHeartbeats 4000000 in
set_option maxRecDepth 100000 in
theorem r_keptEdges_1 (l : Launch) {D : va_G} {cI cL cZ : ClassId} (hm : Nat) (m1 : Nat) (m2 : Nat) (m3 : Nat) (m4 : Nat) (m5 : Nat) (m7 : Nat) (m9 : Nat) (m10 : Nat) (m11 : Nat) (m12 : Nat) (m13 : Nat) (m15 : Nat) (m16 : Nat) (m17 : Nat) (th : Int32) (dr : Int32) (rl : Int32)  : PM l yX6_keptEdges wsX6_keptEdges ({ frames := 0, cells := 0, slots := 0, locals := 0 } : Room) D (gTys cI cL cZ) [.ref hm, .int (0 : Int32)] [(hm, .inr (6, [.int th, .ref m1, .ref m2, .ref m3, .ref m4, .ref m5, .int dr, .ref m7, .int (1 : Int32), .ref m9, .ref m10, .ref m11, .ref m12, .ref m13, .int rl, .ref m15, .ref m16, .ref m17])), (m13, .inl (cZ, 40, .inl (upd (fun _ => (0 : Int32)) 0 (1 : Int32))))] (fun (_ : Unit) => True) (fun (_ : Unit) => some (.int (0 : Int32))) := by
  refine PM.ofG cX6_keptEdges 4 (some .int) (by decide +kernel) rfl (Nat.le_of_ble_eq_true rfl) ?_
  intro p e s m below meth c B hr hlocks hname hK hN
  refine g_iconst (v := (0 : Int32)) B dX6_keptEdges_0 (by decide) ?_
  refine g_istore_n (lv' := [(0, .ref hm), (1, .int (0 : Int32)), (2, .int (0 : Int32))]) B dX6_keptEdges_1 rfl (by decide) [1, 2, 0] rfl ?_
  refine g_iconst (v := (0 : Int32)) B dX6_keptEdges_2 (by decide) ?_
  refine g_istore_n (lv' := [(0, .ref hm), (1, .int (0 : Int32)), (2, .int (0 : Int32)), (3, .int (0 : Int32))]) B dX6_keptEdges_3 rfl (by decide) [1, 2, 3, 0] rfl ?_
  refine g_iload_n B dX6_keptEdges_4 3 rfl ?_
  refine g_aload_n B dX6_keptEdges_5 0 rfl ?_
  refine g_get (C := RX6) (T := TX6) (N := 18) (ci := 6) B hK hin_X6_keptEdges_RX6 0 rfl rfl 8 (by decide) (List.mem_of_getElem? (i := 1) rfl) rfl (v := .int (1 : Int32)) rfl dX6_keptEdges_6 ?_
  refine g_icmp_ge (tgt := 45) B dX6_keptEdges_9 (by decide) (fun c1 => absurd c1 (by decide)) (fun _ => ?_)
  refine g_iload_n B dX6_keptEdges_12 2 rfl ?_
  refine g_aload_n B dX6_keptEdges_13 0 rfl ?_
  refine g_get (C := RX6) (T := TX6) (N := 18) (ci := 6) B hK hin_X6_keptEdges_RX6 0 rfl rfl 13 (by decide) (List.mem_of_getElem? (i := 2) rfl) rfl (v := .ref m13) rfl dX6_keptEdges_14 ?_
  refine g_iload_n B dX6_keptEdges_17 3 rfl ?_
  refine g_zald B hK 1 2 rfl rfl 0 rfl (by omega) (by omega) (v := (1 : Int32)) rfl dX6_keptEdges_18 ?_
  refine g_if_eq (tgt := 36) B dX6_keptEdges_19 (by decide) (fun c2 => absurd c2 (by decide)) (fun _ => ?_)
  refine g_iload_n B dX6_keptEdges_22 3 rfl ?_
  refine g_iload_n B dX6_keptEdges_23 1 rfl ?_
  refine g_icmp_eq (tgt := 36) B dX6_keptEdges_24 (by decide) (fun _ => ?_) (fun c3 => absurd (by decide) c3)
  refine g_iconst (v := (0 : Int32)) B dX6_keptEdges_36 (by decide) ?_
  refine g_ior (v := (0 : Int32)) B dX6_keptEdges_37 (by decide) ?_
  refine g_istore_n (lv' := [(0, .ref hm), (1, .int (0 : Int32)), (2, .int (0 : Int32)), (3, .int (0 : Int32))]) B dX6_keptEdges_38 rfl (by decide) [1, 2, 0, 3] rfl ?_
  refine g_iinc (lv' := [(0, .ref hm), (1, .int (0 : Int32)), (2, .int (0 : Int32)), (3, .int (1 : Int32))]) B dX6_keptEdges_39 3 rfl (by decide) (by decide) [1, 2, 3, 0] rfl ?_
  refine g_goto (tgt := 4) B dX6_keptEdges_42 (by decide) ?_
  refine g_iload_n B dX6_keptEdges_4 3 rfl ?_
  refine g_aload_n B dX6_keptEdges_5 0 rfl ?_
  refine g_get (C := RX6) (T := TX6) (N := 18) (ci := 6) B hK hin_X6_keptEdges_RX6 0 rfl rfl 8 (by decide) (List.mem_of_getElem? (i := 1) rfl) rfl (v := .int (1 : Int32)) rfl dX6_keptEdges_6 ?_
  refine g_icmp_ge (tgt := 45) B dX6_keptEdges_9 (by decide) (fun _ => ?_) (fun c4 => absurd (by decide) c4)
  refine g_iload_n B dX6_keptEdges_45 2 rfl ?_
  exact g_iret_p B hr rfl hlocks () (rfl) (trivial) dX6_keptEdges_46

set_option maxHeartbeats 4000000 in
set_option maxRecDepth 100000 in
theorem r_isNeeded_1 (l : Launch) {D : va_G} {cI cL cZ : ClassId} (hm : Nat) (m1 : Nat) (m2 : Nat) (m3 : Nat) (m4 : Nat) (m5 : Nat) (m7 : Nat) (m9 : Nat) (m10 : Nat) (m11 : Nat) (m12 : Nat) (m13 : Nat) (m15 : Nat) (m16 : Nat) (m17 : Nat) (th : Int32) (dr : Int32) (rl : Int32)  : PM l yX6_isNeeded wsX6_isNeeded ({ frames := 1, cells := 0, slots := 0, locals := 23 } : Room) D (gTys cI cL cZ) [.ref hm, .int (2 : Int32), .int (1 : Int32), .int (0 : Int32)] [(hm, .inr (6, [.int th, .ref m1, .ref m2, .ref m3, .ref m4, .ref m5, .int dr, .ref m7, .int (1 : Int32), .ref m9, .ref m10, .ref m11, .ref m12, .ref m13, .int rl, .ref m15, .ref m16, .ref m17])), (m13, .inl (cZ, 40, .inl (upd (fun _ => (0 : Int32)) 0 (1 : Int32))))] (fun (_ : Unit) => True) (fun (_ : Unit) => some (.int (1 : Int32))) := by
  refine PM.ofG cX6_isNeeded 4 (some .boolean) (by decide +kernel) rfl (Nat.le_of_ble_eq_true rfl) ?_
  intro p e s m below meth c B hr hlocks hname hK hN
  refine g_iload_n B dX6_isNeeded_0 1 rfl ?_
  refine g_aload_n B dX6_isNeeded_1 0 rfl ?_
  refine g_iload_n B dX6_isNeeded_2 3 rfl ?_
  refine g_callP (g_runV (q0 := 0) (ci := 6) B hK rfl rfl (PM.met (r_keptEdges_1 l (D := D) (cI := cI) (cL := cL) (cZ := cZ) hm m1 m2 m3 m4 m5 m7 m9 m10 m11 m12 m13 m15 m16 m17 th dr rl )) (gPp.pre (av := [.ref hm, .int (0 : Int32)]) (wc := [(hm, .inr (6, [.int th, .ref m1, .ref m2, .ref m3, .ref m4, .ref m5, .int dr, .ref m7, .int (1 : Int32), .ref m9, .ref m10, .ref m11, .ref m12, .ref m13, .int rl, .ref m15, .ref m16, .ref m17])), (m13, .inl (cZ, 40, .inl (upd (fun _ => (0 : Int32)) 0 (1 : Int32))))]) hK hN [0, 1] rfl (by decide)) gX6_isNeeded_X6_keptEdges rfl rfl kd_X6_keptEdges ⟨by decide, by decide⟩ (st := [.int (2 : Int32)]) rfl (Nat.le_of_ble_eq_true rfl) dX6_isNeeded_3 ⟨by decide, by decide⟩) (fun u hu => ?_)
  refine g_iconst (v := (-1 : Int32)) B dX6_isNeeded_6 (by decide) ?_
  refine g_ixor (v := (-1 : Int32)) B dX6_isNeeded_7 (by decide) ?_
  refine g_iand (v := (2 : Int32)) B dX6_isNeeded_8 (by decide) ?_
  refine g_if_ne (tgt := 27) B dX6_isNeeded_9 (by decide) (fun _ => ?_) (fun c2 => absurd c2 (by decide))
  refine g_iconst (v := (1 : Int32)) B dX6_isNeeded_27 (by decide) ?_
  refine g_goto (tgt := 32) B dX6_isNeeded_28 (by decide) ?_
  exact g_iret_p B hr rfl hlocks () (rfl) (trivial) dX6_isNeeded_32

set_option maxHeartbeats 4000000 in
set_option maxRecDepth 100000 in
theorem r_drop_1 (l : Launch) {D : va_G} {cI cL cZ : ClassId} (hm : Nat) (m1 : Nat) (m2 : Nat) (m3 : Nat) (m4 : Nat) (m5 : Nat) (m7 : Nat) (m9 : Nat) (m10 : Nat) (m11 : Nat) (m12 : Nat) (m13 : Nat) (m15 : Nat) (m16 : Nat) (m17 : Nat) (th : Int32) (dr : Int32) (rl : Int32)  : WM l yX6_drop wsX6_drop ({ frames := 2, cells := 0, slots := 0, locals := 46 } : Room) D (gTys cI cL cZ) [.ref hm] [(hm, .inr (6, [.int th, .ref m1, .ref m2, .ref m3, .ref m4, .ref m5, .int dr, .ref m7, .int (1 : Int32), .ref m9, .ref m10, .ref m11, .ref m12, .ref m13, .int rl, .ref m15, .ref m16, .ref m17])), (m11, .inl (cI, 40, .inl (upd (fun _ => (0 : Int32)) 0 (2 : Int32)))), (m12, .inl (cI, 40, .inl (upd (fun _ => (0 : Int32)) 0 (1 : Int32)))), (m13, .inl (cZ, 40, .inl (upd (fun _ => (0 : Int32)) 0 (1 : Int32))))] (fun (_ : Unit) => True) (fun (_ : Unit) => none) (fun (_ : Unit) => [(hm, .inr (6, [.int th, .ref m1, .ref m2, .ref m3, .ref m4, .ref m5, .int dr, .ref m7, .int (1 : Int32), .ref m9, .ref m10, .ref m11, .ref m12, .ref m13, .int rl, .ref m15, .ref m16, .ref m17]))]) := by
  refine WM.ofG cX6_drop 2 none (by decide +kernel) rfl (Nat.le_of_ble_eq_true rfl) ?_
  intro p e s m below meth c A hA B hr hlocks hname hK hN
  refine g_iconst (v := (0 : Int32)) B dX6_drop_0 (by decide) ?_
  refine g_istore_n (lv' := [(0, .ref hm), (1, .int (0 : Int32))]) B dX6_drop_1 rfl (by decide) [1, 0] rfl ?_
  refine g_iload_n B dX6_drop_2 1 rfl ?_
  refine g_aload_n B dX6_drop_3 0 rfl ?_
  refine g_get (C := RX6) (T := TX6) (N := 18) (ci := 6) B hK hin_X6_drop_RX6 0 rfl rfl 8 (by decide) (List.mem_of_getElem? (i := 1) rfl) rfl (v := .int (1 : Int32)) rfl dX6_drop_4 ?_
  refine g_icmp_ge (tgt := 42) B dX6_drop_7 (by decide) (fun c1 => absurd c1 (by decide)) (fun _ => ?_)
  refine g_aload_n B dX6_drop_10 0 rfl ?_
  refine g_get (C := RX6) (T := TX6) (N := 18) (ci := 6) B hK hin_X6_drop_RX6 0 rfl rfl 13 (by decide) (List.mem_of_getElem? (i := 2) rfl) rfl (v := .ref m13) rfl dX6_drop_11 ?_
  refine g_iload_n B dX6_drop_14 1 rfl ?_
  refine g_dup2_11 B dX6_drop_15 rfl rfl ?_
  refine g_zald B hK 3 2 rfl rfl 0 rfl (by omega) (by omega) (v := (1 : Int32)) rfl dX6_drop_16 ?_
  refine g_aload_n B dX6_drop_17 0 rfl ?_
  refine g_aload_n B dX6_drop_18 0 rfl ?_
  refine g_get (C := RX6) (T := TX6) (N := 18) (ci := 6) B hK hin_X6_drop_RX6 0 rfl rfl 11 (by decide) (List.mem_of_getElem? (i := 3) rfl) rfl (v := .ref m11) rfl dX6_drop_19 ?_
  refine g_iload_n B dX6_drop_22 1 rfl ?_
  refine g_iald B hK 1 0 rfl rfl 0 rfl (by omega) (by omega) (v := (2 : Int32)) rfl dX6_drop_23 ?_
  refine g_aload_n B dX6_drop_24 0 rfl ?_
  refine g_get (C := RX6) (T := TX6) (N := 18) (ci := 6) B hK hin_X6_drop_RX6 0 rfl rfl 12 (by decide) (List.mem_of_getElem? (i := 4) rfl) rfl (v := .ref m12) rfl dX6_drop_25 ?_
  refine g_iload_n B dX6_drop_28 1 rfl ?_
  refine g_iald B hK 2 0 rfl rfl 0 rfl (by omega) (by omega) (v := (1 : Int32)) rfl dX6_drop_29 ?_
  refine g_iload_n B dX6_drop_30 1 rfl ?_
  refine g_callP (g_runV (q0 := 0) (ci := 6) B hK rfl rfl (PM.met (r_isNeeded_1 l (D := D) (cI := cI) (cL := cL) (cZ := cZ) hm m1 m2 m3 m4 m5 m7 m9 m10 m11 m12 m13 m15 m16 m17 th dr rl )) (gPp.pre (av := [.ref hm, .int (2 : Int32), .int (1 : Int32), .int (0 : Int32)]) (wc := [(hm, .inr (6, [.int th, .ref m1, .ref m2, .ref m3, .ref m4, .ref m5, .int dr, .ref m7, .int (1 : Int32), .ref m9, .ref m10, .ref m11, .ref m12, .ref m13, .int rl, .ref m15, .ref m16, .ref m17])), (m13, .inl (cZ, 40, .inl (upd (fun _ => (0 : Int32)) 0 (1 : Int32))))]) hK hN [0, 3] rfl (by decide)) gX6_drop_X6_isNeeded rfl rfl kd_X6_isNeeded ⟨by decide, by decide⟩ (st := [.int (1 : Int32), .int (0 : Int32), .ref m13]) rfl (Nat.le_of_ble_eq_true rfl) dX6_drop_31 ⟨by decide, by decide⟩) (fun u hu => ?_)
  refine g_iand (v := (1 : Int32)) B dX6_drop_34 (by decide) ?_
  refine g_zast B hK 3 2 rfl rfl 0 rfl (by omega) (by omega) (f2 := (upd (upd (fun _ => (0 : Int32)) 0 (1 : Int32)) 0 (1 : Int32))) (rfl) (w2 := [(hm, .inr (6, [.int th, .ref m1, .ref m2, .ref m3, .ref m4, .ref m5, .int dr, .ref m7, .int (1 : Int32), .ref m9, .ref m10, .ref m11, .ref m12, .ref m13, .int rl, .ref m15, .ref m16, .ref m17])), (m11, .inl (cI, 40, .inl (upd (fun _ => (0 : Int32)) 0 (2 : Int32)))), (m12, .inl (cI, 40, .inl (upd (fun _ => (0 : Int32)) 0 (1 : Int32)))), (m13, .inl (cZ, 40, .inl (upd (upd (fun _ => (0 : Int32)) 0 (1 : Int32)) 0 (1 : Int32))))]) rfl (fun _ h => h) dX6_drop_35 ?_
  refine g_iinc (lv' := [(0, .ref hm), (1, .int (1 : Int32))]) B dX6_drop_36 1 rfl (by decide) (by decide) [1, 0] rfl ?_
  refine g_goto (tgt := 2) B dX6_drop_39 (by decide) ?_
  refine g_iload_n B dX6_drop_2 1 rfl ?_
  refine g_aload_n B dX6_drop_3 0 rfl ?_
  refine g_get (C := RX6) (T := TX6) (N := 18) (ci := 6) B hK hin_X6_drop_RX6 0 rfl rfl 8 (by decide) (List.mem_of_getElem? (i := 1) rfl) rfl (v := .int (1 : Int32)) rfl dX6_drop_4 ?_
  refine g_icmp_ge (tgt := 42) B dX6_drop_7 (by decide) (fun _ => ?_) (fun c3 => absurd (by decide) c3)
  exact g_vret_w B hr hlocks () (rfl) (trivial) [0] (by decide) rfl dX6_drop_42

set_option maxHeartbeats 4000000 in
set_option maxRecDepth 100000 in
theorem r_tasteNow (l : Launch) {D : va_G} {cI cL cZ : ClassId} (hm : Nat) (m1 : Nat) (m2 : Nat) (m3 : Nat) (m4 : Nat) (m5 : Nat) (m7 : Nat) (m9 : Nat) (m10 : Nat) (m11 : Nat) (m12 : Nat) (m13 : Nat) (m15 : Nat) (m16 : Nat) (m17 : Nat) (th : Int32) (dr : Int32) (rl : Int32) (t : Nat) (ht : t < 10000) : WM l yX6_tasteNow wsX6_tasteNow ({ frames := 5, cells := 4, slots := 66, locals := 114 } : Room) D (gTys cI cL cZ) [.ref hm, .int (nI t)] [(hm, .inr (6, [.int th, .ref m1, .ref m2, .ref m3, .ref m4, .ref m5, .int dr, .ref m7, .int (0 : Int32), .ref m9, .ref m10, .ref m11, .ref m12, .ref m13, .int rl, .ref m15, .ref m16, .ref m17])), (m1, .inl (cI, 12, .inl (fun _ => (0 : Int32)))), (m2, .inl (cI, 12, .inl (fun _ => (0 : Int32)))), (m3, .inl (cI, 12, .inl (fun _ => (0 : Int32)))), (m4, .inl (cI, 24, .inl (fun _ => (-1 : Int32)))), (m5, .inl (cZ, 12, .inl (fun _ => (0 : Int32)))), (m9, .inl (cI, 40, .inl (fun _ => (0 : Int32)))), (m10, .inl (cI, 40, .inl (fun _ => (0 : Int32)))), (m11, .inl (cI, 40, .inl (fun _ => (0 : Int32)))), (m12, .inl (cI, 40, .inl (fun _ => (0 : Int32)))), (m13, .inl (cZ, 40, .inl (fun _ => (0 : Int32))))] (fun (_ : Unit) => True) (fun (_ : Unit) => some (.int (0 : Int32))) (fun (_ : Unit) => [(hm, .inr (6, [.int th, .ref m1, .ref m2, .ref m3, .ref m4, .ref m5, .int dr, .ref m7, .int (1 : Int32), .ref m9, .ref m10, .ref m11, .ref m12, .ref m13, .int rl, .ref m15, .ref m16, .ref m17]))]) := by
  refine WM.ofG cX6_tasteNow 4 (some .int) (by decide +kernel) rfl (Nat.le_of_ble_eq_true rfl) ?_
  intro p e s m below meth c A hA B hr hlocks hname hK hN
  refine g_aload_n B dX6_tasteNow_0 0 rfl ?_
  refine g_iload_n B dX6_tasteNow_1 1 rfl ?_
  refine g_callP (g_runV (q0 := 0) (ci := 6) B hK rfl rfl (PM.met (r_placeOf_0 l (D := D) (cI := cI) (cL := cL) (cZ := cZ) hm m1 m2 m3 m4 m5 m7 m9 m10 m11 m12 m13 m15 m16 m17 th dr rl (nI t) )) (gPp.pre (av := [.ref hm, .int (nI t)]) (wc := [(hm, .inr (6, [.int th, .ref m1, .ref m2, .ref m3, .ref m4, .ref m5, .int dr, .ref m7, .int (0 : Int32), .ref m9, .ref m10, .ref m11, .ref m12, .ref m13, .int rl, .ref m15, .ref m16, .ref m17]))]) hK hN [0] rfl (by decide)) gX6_tasteNow_X6_placeOf rfl rfl kd_X6_placeOf ⟨by decide, by decide⟩ (st := []) rfl (Nat.le_of_ble_eq_true rfl) dX6_tasteNow_2 ⟨by decide, by decide⟩) (fun u hu => ?_)
  refine g_iconst (v := (-1 : Int32)) B dX6_tasteNow_5 (by decide) ?_
  refine g_icmp_eq (tgt := 15) B dX6_tasteNow_6 (by decide) (fun _ => ?_) (fun c2 => absurd (by decide) c2)
  refine g_aload_n B dX6_tasteNow_15 0 rfl ?_
  refine g_iload_n B dX6_tasteNow_16 1 rfl ?_
  refine g_callW (w2 := (fun (_ : Unit) => [(hm, .inr (6, [.int th, .ref m1, .ref m2, .ref m3, .ref m4, .ref m5, .int dr, .ref m7, .int (0 : Int32), .ref m9, .ref m10, .ref m11, .ref m12, .ref m13, .int rl, .ref m15, .ref m16, .ref m17])), (m1, .inl (cI, 12, .inl (fun _ => (0 : Int32)))), (m2, .inl (cI, 12, .inl (fun _ => (0 : Int32)))), (m3, .inl (cI, 12, .inl (fun _ => (0 : Int32)))), (m4, .inl (cI, 24, .inl (fun _ => (-1 : Int32)))), (m5, .inl (cZ, 12, .inl (fun _ => (0 : Int32)))), (m9, .inl (cI, 40, .inl (fun _ => (0 : Int32)))), (m10, .inl (cI, 40, .inl (fun _ => (0 : Int32)))), (m11, .inl (cI, 40, .inl (fun _ => (0 : Int32)))), (m12, .inl (cI, 40, .inl (fun _ => (0 : Int32)))), (m13, .inl (cZ, 40, .inl (fun _ => (0 : Int32))))])) (g_runV (q0 := 0) (ci := 6) B hK rfl rfl (r_edgesOf l (D := D) (cI := cI) (cL := cL) (cZ := cZ) hm m1 m2 m3 m4 m5 m7 m9 m10 m11 m12 m13 m15 m16 m17 th dr (0 : Int32) rl t (by omega)) (gPw.pre (av := [.ref hm, .int (nI t)]) (wc := [(hm, .inr (6, [.int th, .ref m1, .ref m2, .ref m3, .ref m4, .ref m5, .int dr, .ref m7, .int (0 : Int32), .ref m9, .ref m10, .ref m11, .ref m12, .ref m13, .int rl, .ref m15, .ref m16, .ref m17])), (m1, .inl (cI, 12, .inl (fun _ => (0 : Int32)))), (m2, .inl (cI, 12, .inl (fun _ => (0 : Int32)))), (m3, .inl (cI, 12, .inl (fun _ => (0 : Int32)))), (m4, .inl (cI, 24, .inl (fun _ => (-1 : Int32)))), (m5, .inl (cZ, 12, .inl (fun _ => (0 : Int32))))]) hK hN [0, 1, 2, 3, 4, 5] rfl (by decide)) gX6_tasteNow_X6_edgesOf rfl rfl kd_X6_edgesOf ⟨by decide, by decide⟩ (st := []) rfl (Nat.le_of_ble_eq_true rfl) dX6_tasteNow_17 ⟨by decide, by decide⟩) hA (fun _ h => h) [0, 1, 2, 3, 4, 5] [6, 7, 8, 9, 10] (wr := [(m9, .inl (cI, 40, .inl (fun _ => (0 : Int32)))), (m10, .inl (cI, 40, .inl (fun _ => (0 : Int32)))), (m11, .inl (cI, 40, .inl (fun _ => (0 : Int32)))), (m12, .inl (cI, 40, .inl (fun _ => (0 : Int32)))), (m13, .inl (cZ, 40, .inl (fun _ => (0 : Int32))))]) rfl rfl (by decide) (by decide) [5, 6, 7, 8, 9, 10, 0, 1, 2, 3, 4] (by decide) (fun _ => rfl) (fun u hu => ?_)
  refine g_istore_n (lv' := [(0, .ref hm), (1, .int (nI t)), (2, .int (2 : Int32))]) B dX6_tasteNow_20 rfl (by decide) [1, 2, 0] rfl ?_
  refine g_aload_n B dX6_tasteNow_21 0 rfl ?_
  refine g_iload_n B dX6_tasteNow_22 1 rfl ?_
  refine g_callW (w2 := (fun (_ : Unit) => [(hm, .inr (6, [.int th, .ref m1, .ref m2, .ref m3, .ref m4, .ref m5, .int dr, .ref m7, .int (0 : Int32), .ref m9, .ref m10, .ref m11, .ref m12, .ref m13, .int rl, .ref m15, .ref m16, .ref m17])), (m1, .inl (cI, 12, .inl (fun _ => (0 : Int32)))), (m2, .inl (cI, 12, .inl (fun _ => (0 : Int32)))), (m3, .inl (cI, 12, .inl (fun _ => (0 : Int32)))), (m4, .inl (cI, 24, .inl (fun _ => (-1 : Int32)))), (m5, .inl (cZ, 12, .inl (fun _ => (0 : Int32)))), (m9, .inl (cI, 40, .inl (fun _ => (0 : Int32)))), (m10, .inl (cI, 40, .inl (fun _ => (0 : Int32)))), (m11, .inl (cI, 40, .inl (fun _ => (0 : Int32)))), (m12, .inl (cI, 40, .inl (fun _ => (0 : Int32)))), (m13, .inl (cZ, 40, .inl (fun _ => (0 : Int32))))])) (g_runV (q0 := 0) (ci := 6) B hK rfl rfl (r_resultOf l (D := D) (cI := cI) (cL := cL) (cZ := cZ) hm m1 m2 m3 m4 m5 m7 m9 m10 m11 m12 m13 m15 m16 m17 th dr (0 : Int32) rl t (by omega)) (gPw.pre (av := [.ref hm, .int (nI t)]) (wc := [(hm, .inr (6, [.int th, .ref m1, .ref m2, .ref m3, .ref m4, .ref m5, .int dr, .ref m7, .int (0 : Int32), .ref m9, .ref m10, .ref m11, .ref m12, .ref m13, .int rl, .ref m15, .ref m16, .ref m17])), (m1, .inl (cI, 12, .inl (fun _ => (0 : Int32)))), (m2, .inl (cI, 12, .inl (fun _ => (0 : Int32)))), (m3, .inl (cI, 12, .inl (fun _ => (0 : Int32)))), (m4, .inl (cI, 24, .inl (fun _ => (-1 : Int32)))), (m5, .inl (cZ, 12, .inl (fun _ => (0 : Int32))))]) hK hN [0, 1, 2, 3, 4, 5] rfl (by decide)) gX6_tasteNow_X6_resultOf rfl rfl kd_X6_resultOf ⟨by decide, by decide⟩ (st := []) rfl (Nat.le_of_ble_eq_true rfl) dX6_tasteNow_23 ⟨by decide, by decide⟩) hA (fun _ h => h) [0, 1, 2, 3, 4, 5] [6, 7, 8, 9, 10] (wr := [(m9, .inl (cI, 40, .inl (fun _ => (0 : Int32)))), (m10, .inl (cI, 40, .inl (fun _ => (0 : Int32)))), (m11, .inl (cI, 40, .inl (fun _ => (0 : Int32)))), (m12, .inl (cI, 40, .inl (fun _ => (0 : Int32)))), (m13, .inl (cZ, 40, .inl (fun _ => (0 : Int32))))]) rfl rfl (by decide) (by decide) [5, 6, 7, 8, 9, 10, 0, 1, 2, 3, 4] (by decide) (fun _ => rfl) (fun u hu => ?_)
  refine g_istore_n (lv' := [(0, .ref hm), (1, .int (nI t)), (2, .int (2 : Int32)), (3, .int (1 : Int32))]) B dX6_tasteNow_26 rfl (by decide) [1, 2, 3, 0] rfl ?_
  refine g_aload_n B dX6_tasteNow_27 0 rfl ?_
  refine g_iload_n B dX6_tasteNow_28 2 rfl ?_
  refine g_iload_n B dX6_tasteNow_29 3 rfl ?_
  refine g_iconst (v := (-1 : Int32)) B dX6_tasteNow_30 (by decide) ?_
  refine g_callP (g_runV (q0 := 0) (ci := 6) B hK rfl rfl (PM.met (r_isNeeded_0 l (D := D) (cI := cI) (cL := cL) (cZ := cZ) hm m1 m2 m3 m4 m5 m7 m9 m10 m11 m12 m13 m15 m16 m17 th dr rl )) (gPp.pre (av := [.ref hm, .int (2 : Int32), .int (1 : Int32), .int (-1 : Int32)]) (wc := [(hm, .inr (6, [.int th, .ref m1, .ref m2, .ref m3, .ref m4, .ref m5, .int dr, .ref m7, .int (0 : Int32), .ref m9, .ref m10, .ref m11, .ref m12, .ref m13, .int rl, .ref m15, .ref m16, .ref m17]))]) hK hN [0] rfl (by decide)) gX6_tasteNow_X6_isNeeded rfl rfl kd_X6_isNeeded ⟨by decide, by decide⟩ (st := []) rfl (Nat.le_of_ble_eq_true rfl) dX6_tasteNow_31 ⟨by decide, by decide⟩) (fun u hu => ?_)
  refine g_if_ne (tgt := 39) B dX6_tasteNow_34 (by decide) (fun _ => ?_) (fun c6 => absurd c6 (by decide))
  refine g_aload_n B dX6_tasteNow_39 0 rfl ?_
  refine g_get (C := RX6) (T := TX6) (N := 18) (ci := 6) B hK hin_X6_tasteNow_RX6 0 rfl rfl 9 (by decide) (List.mem_of_getElem? (i := 1) rfl) rfl (v := .ref m9) rfl dX6_tasteNow_40 ?_
  refine g_aload_n B dX6_tasteNow_43 0 rfl ?_
  refine g_get (C := RX6) (T := TX6) (N := 18) (ci := 6) B hK hin_X6_tasteNow_RX6 0 rfl rfl 8 (by decide) (List.mem_of_getElem? (i := 2) rfl) rfl (v := .int (0 : Int32)) rfl dX6_tasteNow_44 ?_
  refine g_iload_n B dX6_tasteNow_47 1 rfl ?_
  refine g_iast B hK 6 0 rfl rfl 0 rfl (by omega) (by omega) (f2 := (upd (fun _ => (0 : Int32)) 0 (nI t))) (rfl) (w2 := [(hm, .inr (6, [.int th, .ref m1, .ref m2, .ref m3, .ref m4, .ref m5, .int dr, .ref m7, .int (0 : Int32), .ref m9, .ref m10, .ref m11, .ref m12, .ref m13, .int rl, .ref m15, .ref m16, .ref m17])), (m1, .inl (cI, 12, .inl (fun _ => (0 : Int32)))), (m2, .inl (cI, 12, .inl (fun _ => (0 : Int32)))), (m3, .inl (cI, 12, .inl (fun _ => (0 : Int32)))), (m4, .inl (cI, 24, .inl (fun _ => (-1 : Int32)))), (m5, .inl (cZ, 12, .inl (fun _ => (0 : Int32)))), (m9, .inl (cI, 40, .inl (upd (fun _ => (0 : Int32)) 0 (nI t)))), (m10, .inl (cI, 40, .inl (fun _ => (0 : Int32)))), (m11, .inl (cI, 40, .inl (fun _ => (0 : Int32)))), (m12, .inl (cI, 40, .inl (fun _ => (0 : Int32)))), (m13, .inl (cZ, 40, .inl (fun _ => (0 : Int32))))]) rfl (fun _ h => h) dX6_tasteNow_48 ?_
  refine g_aload_n B dX6_tasteNow_49 0 rfl ?_
  refine g_get (C := RX6) (T := TX6) (N := 18) (ci := 6) B hK hin_X6_tasteNow_RX6 0 rfl rfl 11 (by decide) (List.mem_of_getElem? (i := 3) rfl) rfl (v := .ref m11) rfl dX6_tasteNow_50 ?_
  refine g_aload_n B dX6_tasteNow_53 0 rfl ?_
  refine g_get (C := RX6) (T := TX6) (N := 18) (ci := 6) B hK hin_X6_tasteNow_RX6 0 rfl rfl 8 (by decide) (List.mem_of_getElem? (i := 2) rfl) rfl (v := .int (0 : Int32)) rfl dX6_tasteNow_54 ?_
  refine g_iload_n B dX6_tasteNow_57 2 rfl ?_
  refine g_iast B hK 8 0 rfl rfl 0 rfl (by omega) (by omega) (f2 := (upd (fun _ => (0 : Int32)) 0 (2 : Int32))) (rfl) (w2 := [(hm, .inr (6, [.int th, .ref m1, .ref m2, .ref m3, .ref m4, .ref m5, .int dr, .ref m7, .int (0 : Int32), .ref m9, .ref m10, .ref m11, .ref m12, .ref m13, .int rl, .ref m15, .ref m16, .ref m17])), (m1, .inl (cI, 12, .inl (fun _ => (0 : Int32)))), (m2, .inl (cI, 12, .inl (fun _ => (0 : Int32)))), (m3, .inl (cI, 12, .inl (fun _ => (0 : Int32)))), (m4, .inl (cI, 24, .inl (fun _ => (-1 : Int32)))), (m5, .inl (cZ, 12, .inl (fun _ => (0 : Int32)))), (m9, .inl (cI, 40, .inl (upd (fun _ => (0 : Int32)) 0 (nI t)))), (m10, .inl (cI, 40, .inl (fun _ => (0 : Int32)))), (m11, .inl (cI, 40, .inl (upd (fun _ => (0 : Int32)) 0 (2 : Int32)))), (m12, .inl (cI, 40, .inl (fun _ => (0 : Int32)))), (m13, .inl (cZ, 40, .inl (fun _ => (0 : Int32))))]) rfl (fun _ h => h) dX6_tasteNow_58 ?_
  refine g_aload_n B dX6_tasteNow_59 0 rfl ?_
  refine g_get (C := RX6) (T := TX6) (N := 18) (ci := 6) B hK hin_X6_tasteNow_RX6 0 rfl rfl 12 (by decide) (List.mem_of_getElem? (i := 4) rfl) rfl (v := .ref m12) rfl dX6_tasteNow_60 ?_
  refine g_aload_n B dX6_tasteNow_63 0 rfl ?_
  refine g_get (C := RX6) (T := TX6) (N := 18) (ci := 6) B hK hin_X6_tasteNow_RX6 0 rfl rfl 8 (by decide) (List.mem_of_getElem? (i := 2) rfl) rfl (v := .int (0 : Int32)) rfl dX6_tasteNow_64 ?_
  refine g_iload_n B dX6_tasteNow_67 3 rfl ?_
  refine g_iast B hK 9 0 rfl rfl 0 rfl (by omega) (by omega) (f2 := (upd (fun _ => (0 : Int32)) 0 (1 : Int32))) (rfl) (w2 := [(hm, .inr (6, [.int th, .ref m1, .ref m2, .ref m3, .ref m4, .ref m5, .int dr, .ref m7, .int (0 : Int32), .ref m9, .ref m10, .ref m11, .ref m12, .ref m13, .int rl, .ref m15, .ref m16, .ref m17])), (m1, .inl (cI, 12, .inl (fun _ => (0 : Int32)))), (m2, .inl (cI, 12, .inl (fun _ => (0 : Int32)))), (m3, .inl (cI, 12, .inl (fun _ => (0 : Int32)))), (m4, .inl (cI, 24, .inl (fun _ => (-1 : Int32)))), (m5, .inl (cZ, 12, .inl (fun _ => (0 : Int32)))), (m9, .inl (cI, 40, .inl (upd (fun _ => (0 : Int32)) 0 (nI t)))), (m10, .inl (cI, 40, .inl (fun _ => (0 : Int32)))), (m11, .inl (cI, 40, .inl (upd (fun _ => (0 : Int32)) 0 (2 : Int32)))), (m12, .inl (cI, 40, .inl (upd (fun _ => (0 : Int32)) 0 (1 : Int32)))), (m13, .inl (cZ, 40, .inl (fun _ => (0 : Int32))))]) rfl (fun _ h => h) dX6_tasteNow_68 ?_
  refine g_aload_n B dX6_tasteNow_69 0 rfl ?_
  refine g_get (C := RX6) (T := TX6) (N := 18) (ci := 6) B hK hin_X6_tasteNow_RX6 0 rfl rfl 13 (by decide) (List.mem_of_getElem? (i := 5) rfl) rfl (v := .ref m13) rfl dX6_tasteNow_70 ?_
  refine g_aload_n B dX6_tasteNow_73 0 rfl ?_
  refine g_get (C := RX6) (T := TX6) (N := 18) (ci := 6) B hK hin_X6_tasteNow_RX6 0 rfl rfl 8 (by decide) (List.mem_of_getElem? (i := 2) rfl) rfl (v := .int (0 : Int32)) rfl dX6_tasteNow_74 ?_
  refine g_iconst (v := (1 : Int32)) B dX6_tasteNow_77 (by decide) ?_
  refine g_zast B hK 10 2 rfl rfl 0 rfl (by omega) (by omega) (f2 := (upd (fun _ => (0 : Int32)) 0 (1 : Int32))) (rfl) (w2 := [(hm, .inr (6, [.int th, .ref m1, .ref m2, .ref m3, .ref m4, .ref m5, .int dr, .ref m7, .int (0 : Int32), .ref m9, .ref m10, .ref m11, .ref m12, .ref m13, .int rl, .ref m15, .ref m16, .ref m17])), (m1, .inl (cI, 12, .inl (fun _ => (0 : Int32)))), (m2, .inl (cI, 12, .inl (fun _ => (0 : Int32)))), (m3, .inl (cI, 12, .inl (fun _ => (0 : Int32)))), (m4, .inl (cI, 24, .inl (fun _ => (-1 : Int32)))), (m5, .inl (cZ, 12, .inl (fun _ => (0 : Int32)))), (m9, .inl (cI, 40, .inl (upd (fun _ => (0 : Int32)) 0 (nI t)))), (m10, .inl (cI, 40, .inl (fun _ => (0 : Int32)))), (m11, .inl (cI, 40, .inl (upd (fun _ => (0 : Int32)) 0 (2 : Int32)))), (m12, .inl (cI, 40, .inl (upd (fun _ => (0 : Int32)) 0 (1 : Int32)))), (m13, .inl (cZ, 40, .inl (upd (fun _ => (0 : Int32)) 0 (1 : Int32))))]) rfl (fun _ h => h) dX6_tasteNow_78 ?_
  refine g_aload_n B dX6_tasteNow_79 0 rfl ?_
  refine g_get (C := RX6) (T := TX6) (N := 18) (ci := 6) B hK hin_X6_tasteNow_RX6 0 rfl rfl 10 (by decide) (List.mem_of_getElem? (i := 6) rfl) rfl (v := .ref m10) rfl dX6_tasteNow_80 ?_
  refine g_aload_n B dX6_tasteNow_83 0 rfl ?_
  refine g_dup B dX6_tasteNow_84 rfl ?_
  refine g_get (C := RX6) (T := TX6) (N := 18) (ci := 6) B hK hin_X6_tasteNow_RX6 0 rfl rfl 8 (by decide) (List.mem_of_getElem? (i := 2) rfl) rfl (v := .int (0 : Int32)) rfl dX6_tasteNow_85 ?_
  refine g_dup_x1 B dX6_tasteNow_88 rfl rfl ?_
  refine g_iconst (v := (1 : Int32)) B dX6_tasteNow_89 (by decide) ?_
  refine g_iadd (v := (1 : Int32)) B dX6_tasteNow_90 (by decide) ?_
  refine g_put (C := RX6) (T := TX6) (N := 18) (ci := 6) B hK hin_X6_tasteNow_RX6 0 rfl rfl 8 (by decide) tyX6 tyX6_ok nmX6 (List.mem_of_getElem? (i := 2) rfl) rfl rfl (ty := .int) (v := .int (1 : Int32)) (by decide +kernel) rfl rfl (Nat.le_of_ble_eq_true rfl) (w2 := [(hm, .inr (6, [.int th, .ref m1, .ref m2, .ref m3, .ref m4, .ref m5, .int dr, .ref m7, .int (1 : Int32), .ref m9, .ref m10, .ref m11, .ref m12, .ref m13, .int rl, .ref m15, .ref m16, .ref m17])), (m1, .inl (cI, 12, .inl (fun _ => (0 : Int32)))), (m2, .inl (cI, 12, .inl (fun _ => (0 : Int32)))), (m3, .inl (cI, 12, .inl (fun _ => (0 : Int32)))), (m4, .inl (cI, 24, .inl (fun _ => (-1 : Int32)))), (m5, .inl (cZ, 12, .inl (fun _ => (0 : Int32)))), (m9, .inl (cI, 40, .inl (upd (fun _ => (0 : Int32)) 0 (nI t)))), (m10, .inl (cI, 40, .inl (fun _ => (0 : Int32)))), (m11, .inl (cI, 40, .inl (upd (fun _ => (0 : Int32)) 0 (2 : Int32)))), (m12, .inl (cI, 40, .inl (upd (fun _ => (0 : Int32)) 0 (1 : Int32)))), (m13, .inl (cZ, 40, .inl (upd (fun _ => (0 : Int32)) 0 (1 : Int32))))]) rfl (fun _ h => h) dX6_tasteNow_91 ?_
  refine g_iconst (v := (0 : Int32)) B dX6_tasteNow_94 (by decide) ?_
  refine g_iast B hK 7 0 rfl rfl 0 rfl (by omega) (by omega) (f2 := (upd (fun _ => (0 : Int32)) 0 (0 : Int32))) (rfl) (w2 := [(hm, .inr (6, [.int th, .ref m1, .ref m2, .ref m3, .ref m4, .ref m5, .int dr, .ref m7, .int (1 : Int32), .ref m9, .ref m10, .ref m11, .ref m12, .ref m13, .int rl, .ref m15, .ref m16, .ref m17])), (m1, .inl (cI, 12, .inl (fun _ => (0 : Int32)))), (m2, .inl (cI, 12, .inl (fun _ => (0 : Int32)))), (m3, .inl (cI, 12, .inl (fun _ => (0 : Int32)))), (m4, .inl (cI, 24, .inl (fun _ => (-1 : Int32)))), (m5, .inl (cZ, 12, .inl (fun _ => (0 : Int32)))), (m9, .inl (cI, 40, .inl (upd (fun _ => (0 : Int32)) 0 (nI t)))), (m10, .inl (cI, 40, .inl (upd (fun _ => (0 : Int32)) 0 (0 : Int32)))), (m11, .inl (cI, 40, .inl (upd (fun _ => (0 : Int32)) 0 (2 : Int32)))), (m12, .inl (cI, 40, .inl (upd (fun _ => (0 : Int32)) 0 (1 : Int32)))), (m13, .inl (cZ, 40, .inl (upd (fun _ => (0 : Int32)) 0 (1 : Int32))))]) rfl (fun _ h => h) dX6_tasteNow_95 ?_
  refine g_aload_n B dX6_tasteNow_96 0 rfl ?_
  refine g_callW (w2 := (fun (_ : Unit) => [(hm, .inr (6, [.int th, .ref m1, .ref m2, .ref m3, .ref m4, .ref m5, .int dr, .ref m7, .int (1 : Int32), .ref m9, .ref m10, .ref m11, .ref m12, .ref m13, .int rl, .ref m15, .ref m16, .ref m17])), (m1, .inl (cI, 12, .inl (fun _ => (0 : Int32)))), (m2, .inl (cI, 12, .inl (fun _ => (0 : Int32)))), (m3, .inl (cI, 12, .inl (fun _ => (0 : Int32)))), (m4, .inl (cI, 24, .inl (fun _ => (-1 : Int32)))), (m5, .inl (cZ, 12, .inl (fun _ => (0 : Int32)))), (m9, .inl (cI, 40, .inl (upd (fun _ => (0 : Int32)) 0 (nI t)))), (m10, .inl (cI, 40, .inl (upd (fun _ => (0 : Int32)) 0 (0 : Int32))))])) (g_runV (q0 := 0) (ci := 6) B hK rfl rfl (r_drop_1 l (D := D) (cI := cI) (cL := cL) (cZ := cZ) hm m1 m2 m3 m4 m5 m7 m9 m10 m11 m12 m13 m15 m16 m17 th dr rl ) (gPw.pre (av := [.ref hm]) (wc := [(hm, .inr (6, [.int th, .ref m1, .ref m2, .ref m3, .ref m4, .ref m5, .int dr, .ref m7, .int (1 : Int32), .ref m9, .ref m10, .ref m11, .ref m12, .ref m13, .int rl, .ref m15, .ref m16, .ref m17])), (m11, .inl (cI, 40, .inl (upd (fun _ => (0 : Int32)) 0 (2 : Int32)))), (m12, .inl (cI, 40, .inl (upd (fun _ => (0 : Int32)) 0 (1 : Int32)))), (m13, .inl (cZ, 40, .inl (upd (fun _ => (0 : Int32)) 0 (1 : Int32))))]) hK hN [0, 8, 9, 10] rfl (by decide)) gX6_tasteNow_X6_drop rfl rfl kd_X6_drop ⟨by decide, by decide⟩ (st := []) rfl (Nat.le_of_ble_eq_true rfl) dX6_tasteNow_97 ⟨by decide, by decide⟩) hA (fun _ h => h) [0, 8, 9, 10] [1, 2, 3, 4, 5, 6, 7] (wr := [(m1, .inl (cI, 12, .inl (fun _ => (0 : Int32)))), (m2, .inl (cI, 12, .inl (fun _ => (0 : Int32)))), (m3, .inl (cI, 12, .inl (fun _ => (0 : Int32)))), (m4, .inl (cI, 24, .inl (fun _ => (-1 : Int32)))), (m5, .inl (cZ, 12, .inl (fun _ => (0 : Int32)))), (m9, .inl (cI, 40, .inl (upd (fun _ => (0 : Int32)) 0 (nI t)))), (m10, .inl (cI, 40, .inl (upd (fun _ => (0 : Int32)) 0 (0 : Int32))))]) rfl rfl (by decide) (by decide) [7, 0, 1, 2, 3, 4, 5, 6] (by decide) (fun _ => rfl) (fun u hu => ?_)
  refine g_aload_n B dX6_tasteNow_100 0 rfl ?_
  refine g_get (C := RX6) (T := TX6) (N := 18) (ci := 6) B hK hin_X6_tasteNow_RX6 0 rfl rfl 8 (by decide) (List.mem_of_getElem? (i := 2) rfl) rfl (v := .int (1 : Int32)) rfl dX6_tasteNow_101 ?_
  refine g_iconst (v := (1 : Int32)) B dX6_tasteNow_104 (by decide) ?_
  refine g_isub (v := (0 : Int32)) B dX6_tasteNow_105 (by decide) ?_
  refine g_widen (k := 4) (n := 66) (by (try dsimp only); omega) (by (try dsimp only); omega) ?_
  exact g_iret_w B hr rfl hlocks () (rfl) (trivial) [0] (by decide) rfl dX6_tasteNow_106

set_option maxHeartbeats 4000000 in
set_option maxRecDepth 100000 in
theorem r_ask_x0 (l : Launch) {D : va_G} {cI cL cZ : ClassId} (hm : Nat) (m1 : Nat) (m2 : Nat) (m3 : Nat) (m4 : Nat) (m5 : Nat) (m7 : Nat) (m9 : Nat) (m10 : Nat) (m11 : Nat) (m12 : Nat) (m13 : Nat) (m15 : Nat) (m16 : Nat) (m17 : Nat) (th : Int32) (dr : Int32) (rl : Int32) (a1 : Int32) (a2 : Int32) (a3 : Int32) (a4 : Int32) (h_a1 : inR a1 0 11 = false) : WM l yX6_ask wsX6_ask ({ frames := 2, cells := 0, slots := 0, locals := 42 } : Room) D (gTys cI cL cZ) [.ref hm, .int a1, .int a2, .int a3, .int a4] [(hm, .inr (6, [.int th, .ref m1, .ref m2, .ref m3, .ref m4, .ref m5, .int dr, .ref m7, .int (0 : Int32), .ref m9, .ref m10, .ref m11, .ref m12, .ref m13, .int rl, .ref m15, .ref m16, .ref m17]))] (fun (_ : Unit) => True) (fun (_ : Unit) => some (.int (0 : Int32))) (fun (_ : Unit) => [(hm, .inr (6, [.int (1 : Int32), .ref m1, .ref m2, .ref m3, .ref m4, .ref m5, .int dr, .ref m7, .int (0 : Int32), .ref m9, .ref m10, .ref m11, .ref m12, .ref m13, .int rl, .ref m15, .ref m16, .ref m17]))]) := by
  refine WM.ofG cX6_ask 5 (some .int) (by decide +kernel) rfl (Nat.le_of_ble_eq_true rfl) ?_
  intro p e s m below meth c A hA B hr hlocks hname hK hN
  refine g_aload_n B dX6_ask_0 0 rfl ?_
  refine g_iconst (v := (0 : Int32)) B dX6_ask_1 (by decide) ?_
  refine g_put (C := RX6) (T := TX6) (N := 18) (ci := 6) B hK hin_X6_ask_RX6 0 rfl rfl 0 (by decide) tyX6 tyX6_ok nmX6 (List.mem_of_getElem? (i := 1) rfl) rfl rfl (ty := .int) (v := .int (0 : Int32)) (by decide +kernel) rfl rfl (Nat.le_of_ble_eq_true rfl) (w2 := [(hm, .inr (6, [.int (0 : Int32), .ref m1, .ref m2, .ref m3, .ref m4, .ref m5, .int dr, .ref m7, .int (0 : Int32), .ref m9, .ref m10, .ref m11, .ref m12, .ref m13, .int rl, .ref m15, .ref m16, .ref m17]))]) rfl (fun _ h => h) dX6_ask_2 ?_
  refine g_iload_n B dX6_ask_5 1 rfl ?_
  refine g_callP (g_runS B (PM.met (r_isNode_f l (D := D) (cI := cI) (cL := cL) (cZ := cZ) a1 (by first | assumption | exact hy (by assumption) | exact hz (by assumption)))) (gPp.pre (av := [.int a1]) (wc := []) hK hN [] rfl (by decide)) gX6_ask_X6_isNode rfl kd_X6_isNode ⟨by decide, by decide⟩ (st := []) rfl (Nat.le_of_ble_eq_true rfl) dX6_ask_6 ⟨by decide, by decide⟩) (fun u hu => ?_)
  refine g_if_eq (tgt := 19) B dX6_ask_9 (by decide) (fun _ => ?_) (fun c2 => absurd (by decide) c2)
  refine g_aload_n B dX6_ask_19 0 rfl ?_
  refine g_iconst (v := (1 : Int32)) B dX6_ask_20 (by decide) ?_
  refine g_callW (w2 := (fun (_ : Unit) => [(hm, .inr (6, [.int (1 : Int32), .ref m1, .ref m2, .ref m3, .ref m4, .ref m5, .int dr, .ref m7, .int (0 : Int32), .ref m9, .ref m10, .ref m11, .ref m12, .ref m13, .int rl, .ref m15, .ref m16, .ref m17]))])) (g_runV (q0 := 0) (ci := 6) B hK rfl rfl (r_no l (D := D) (cI := cI) (cL := cL) (cZ := cZ) hm m1 m2 m3 m4 m5 m7 m9 m10 m11 m12 m13 m15 m16 m17 (0 : Int32) dr (0 : Int32) rl (1 : Int32) ) (gPw.pre (av := [.ref hm, .int (1 : Int32)]) (wc := [(hm, .inr (6, [.int (0 : Int32), .ref m1, .ref m2, .ref m3, .ref m4, .ref m5, .int dr, .ref m7, .int (0 : Int32), .ref m9, .ref m10, .ref m11, .ref m12, .ref m13, .int rl, .ref m15, .ref m16, .ref m17]))]) hK hN [0] rfl (by decide)) gX6_ask_X6_no rfl rfl kd_X6_no ⟨by decide, by decide⟩ (st := []) rfl (Nat.le_of_ble_eq_true rfl) dX6_ask_21 ⟨by decide, by decide⟩) hA (fun _ h => h) [0] [] (wr := []) rfl rfl (by decide) (by decide) [0] (by decide) (fun _ => rfl) (fun u hu => ?_)
  exact g_iret_w B hr rfl hlocks () (rfl) (trivial) [0] (by decide) rfl dX6_ask_24

set_option maxHeartbeats 4000000 in
set_option maxRecDepth 100000 in
theorem r_ask_x1 (l : Launch) {D : va_G} {cI cL cZ : ClassId} (hm : Nat) (m1 : Nat) (m2 : Nat) (m3 : Nat) (m4 : Nat) (m5 : Nat) (m7 : Nat) (m9 : Nat) (m10 : Nat) (m11 : Nat) (m12 : Nat) (m13 : Nat) (m15 : Nat) (m16 : Nat) (m17 : Nat) (th : Int32) (dr : Int32) (rl : Int32) (a1 : Int32) (a2 : Int32) (a3 : Int32) (a4 : Int32) (h_a1 : inR a1 0 11 = true) (h_a2 : inR a2 0 3 = false) : WM l yX6_ask wsX6_ask ({ frames := 2, cells := 0, slots := 0, locals := 42 } : Room) D (gTys cI cL cZ) [.ref hm, .int a1, .int a2, .int a3, .int a4] [(hm, .inr (6, [.int th, .ref m1, .ref m2, .ref m3, .ref m4, .ref m5, .int dr, .ref m7, .int (0 : Int32), .ref m9, .ref m10, .ref m11, .ref m12, .ref m13, .int rl, .ref m15, .ref m16, .ref m17]))] (fun (_ : Unit) => True) (fun (_ : Unit) => some (.int (0 : Int32))) (fun (_ : Unit) => [(hm, .inr (6, [.int (1 : Int32), .ref m1, .ref m2, .ref m3, .ref m4, .ref m5, .int dr, .ref m7, .int (0 : Int32), .ref m9, .ref m10, .ref m11, .ref m12, .ref m13, .int rl, .ref m15, .ref m16, .ref m17]))]) := by
  refine WM.ofG cX6_ask 5 (some .int) (by decide +kernel) rfl (Nat.le_of_ble_eq_true rfl) ?_
  intro p e s m below meth c A hA B hr hlocks hname hK hN
  refine g_aload_n B dX6_ask_0 0 rfl ?_
  refine g_iconst (v := (0 : Int32)) B dX6_ask_1 (by decide) ?_
  refine g_put (C := RX6) (T := TX6) (N := 18) (ci := 6) B hK hin_X6_ask_RX6 0 rfl rfl 0 (by decide) tyX6 tyX6_ok nmX6 (List.mem_of_getElem? (i := 1) rfl) rfl rfl (ty := .int) (v := .int (0 : Int32)) (by decide +kernel) rfl rfl (Nat.le_of_ble_eq_true rfl) (w2 := [(hm, .inr (6, [.int (0 : Int32), .ref m1, .ref m2, .ref m3, .ref m4, .ref m5, .int dr, .ref m7, .int (0 : Int32), .ref m9, .ref m10, .ref m11, .ref m12, .ref m13, .int rl, .ref m15, .ref m16, .ref m17]))]) rfl (fun _ h => h) dX6_ask_2 ?_
  refine g_iload_n B dX6_ask_5 1 rfl ?_
  refine g_callP (g_runS B (PM.met (r_isNode_t l (D := D) (cI := cI) (cL := cL) (cZ := cZ) a1 (by first | assumption | exact hy (by assumption) | exact hz (by assumption)))) (gPp.pre (av := [.int a1]) (wc := []) hK hN [] rfl (by decide)) gX6_ask_X6_isNode rfl kd_X6_isNode ⟨by decide, by decide⟩ (st := []) rfl (Nat.le_of_ble_eq_true rfl) dX6_ask_6 ⟨by decide, by decide⟩) (fun u hu => ?_)
  refine g_if_eq (tgt := 19) B dX6_ask_9 (by decide) (fun c2 => absurd c2 (by decide)) (fun _ => ?_)
  refine g_iload_n B dX6_ask_12 2 rfl ?_
  refine g_callP (g_runS B (PM.met (r_isSlot_f l (D := D) (cI := cI) (cL := cL) (cZ := cZ) a2 (by first | assumption | exact hy (by assumption) | exact hz (by assumption)))) (gPp.pre (av := [.int a2]) (wc := []) hK hN [] rfl (by decide)) gX6_ask_X6_isSlot rfl kd_X6_isSlot ⟨by decide, by decide⟩ (st := []) rfl (Nat.le_of_ble_eq_true rfl) dX6_ask_13 ⟨by decide, by decide⟩) (fun u hu => ?_)
  refine g_if_ne (tgt := 25) B dX6_ask_16 (by decide) (fun c4 => absurd (by decide) c4) (fun _ => ?_)
  refine g_aload_n B dX6_ask_19 0 rfl ?_
  refine g_iconst (v := (1 : Int32)) B dX6_ask_20 (by decide) ?_
  refine g_callW (w2 := (fun (_ : Unit) => [(hm, .inr (6, [.int (1 : Int32), .ref m1, .ref m2, .ref m3, .ref m4, .ref m5, .int dr, .ref m7, .int (0 : Int32), .ref m9, .ref m10, .ref m11, .ref m12, .ref m13, .int rl, .ref m15, .ref m16, .ref m17]))])) (g_runV (q0 := 0) (ci := 6) B hK rfl rfl (r_no l (D := D) (cI := cI) (cL := cL) (cZ := cZ) hm m1 m2 m3 m4 m5 m7 m9 m10 m11 m12 m13 m15 m16 m17 (0 : Int32) dr (0 : Int32) rl (1 : Int32) ) (gPw.pre (av := [.ref hm, .int (1 : Int32)]) (wc := [(hm, .inr (6, [.int (0 : Int32), .ref m1, .ref m2, .ref m3, .ref m4, .ref m5, .int dr, .ref m7, .int (0 : Int32), .ref m9, .ref m10, .ref m11, .ref m12, .ref m13, .int rl, .ref m15, .ref m16, .ref m17]))]) hK hN [0] rfl (by decide)) gX6_ask_X6_no rfl rfl kd_X6_no ⟨by decide, by decide⟩ (st := []) rfl (Nat.le_of_ble_eq_true rfl) dX6_ask_21 ⟨by decide, by decide⟩) hA (fun _ h => h) [0] [] (wr := []) rfl rfl (by decide) (by decide) [0] (by decide) (fun _ => rfl) (fun u hu => ?_)
  exact g_iret_w B hr rfl hlocks () (rfl) (trivial) [0] (by decide) rfl dX6_ask_24

set_option maxHeartbeats 4000000 in
set_option maxRecDepth 100000 in
theorem r_ask_x2 (l : Launch) {D : va_G} {cI cL cZ : ClassId} (hm : Nat) (m1 : Nat) (m2 : Nat) (m3 : Nat) (m4 : Nat) (m5 : Nat) (m7 : Nat) (m9 : Nat) (m10 : Nat) (m11 : Nat) (m12 : Nat) (m13 : Nat) (m15 : Nat) (m16 : Nat) (m17 : Nat) (th : Int32) (dr : Int32) (rl : Int32) (a1 : Int32) (a2 : Int32) (a3 : Int32) (a4 : Int32) (h_a1 : inR a1 0 11 = true) (h_a2 : inR a2 0 3 = true) (h_a3 : inR a3 0 2 = false) : WM l yX6_ask wsX6_ask ({ frames := 2, cells := 0, slots := 0, locals := 42 } : Room) D (gTys cI cL cZ) [.ref hm, .int a1, .int a2, .int a3, .int a4] [(hm, .inr (6, [.int th, .ref m1, .ref m2, .ref m3, .ref m4, .ref m5, .int dr, .ref m7, .int (0 : Int32), .ref m9, .ref m10, .ref m11, .ref m12, .ref m13, .int rl, .ref m15, .ref m16, .ref m17]))] (fun (_ : Unit) => True) (fun (_ : Unit) => some (.int (0 : Int32))) (fun (_ : Unit) => [(hm, .inr (6, [.int (2 : Int32), .ref m1, .ref m2, .ref m3, .ref m4, .ref m5, .int dr, .ref m7, .int (0 : Int32), .ref m9, .ref m10, .ref m11, .ref m12, .ref m13, .int rl, .ref m15, .ref m16, .ref m17]))]) := by
  refine WM.ofG cX6_ask 5 (some .int) (by decide +kernel) rfl (Nat.le_of_ble_eq_true rfl) ?_
  intro p e s m below meth c A hA B hr hlocks hname hK hN
  refine g_aload_n B dX6_ask_0 0 rfl ?_
  refine g_iconst (v := (0 : Int32)) B dX6_ask_1 (by decide) ?_
  refine g_put (C := RX6) (T := TX6) (N := 18) (ci := 6) B hK hin_X6_ask_RX6 0 rfl rfl 0 (by decide) tyX6 tyX6_ok nmX6 (List.mem_of_getElem? (i := 1) rfl) rfl rfl (ty := .int) (v := .int (0 : Int32)) (by decide +kernel) rfl rfl (Nat.le_of_ble_eq_true rfl) (w2 := [(hm, .inr (6, [.int (0 : Int32), .ref m1, .ref m2, .ref m3, .ref m4, .ref m5, .int dr, .ref m7, .int (0 : Int32), .ref m9, .ref m10, .ref m11, .ref m12, .ref m13, .int rl, .ref m15, .ref m16, .ref m17]))]) rfl (fun _ h => h) dX6_ask_2 ?_
  refine g_iload_n B dX6_ask_5 1 rfl ?_
  refine g_callP (g_runS B (PM.met (r_isNode_t l (D := D) (cI := cI) (cL := cL) (cZ := cZ) a1 (by first | assumption | exact hy (by assumption) | exact hz (by assumption)))) (gPp.pre (av := [.int a1]) (wc := []) hK hN [] rfl (by decide)) gX6_ask_X6_isNode rfl kd_X6_isNode ⟨by decide, by decide⟩ (st := []) rfl (Nat.le_of_ble_eq_true rfl) dX6_ask_6 ⟨by decide, by decide⟩) (fun u hu => ?_)
  refine g_if_eq (tgt := 19) B dX6_ask_9 (by decide) (fun c2 => absurd c2 (by decide)) (fun _ => ?_)
  refine g_iload_n B dX6_ask_12 2 rfl ?_
  refine g_callP (g_runS B (PM.met (r_isSlot_t l (D := D) (cI := cI) (cL := cL) (cZ := cZ) a2 (by first | assumption | exact hy (by assumption) | exact hz (by assumption)))) (gPp.pre (av := [.int a2]) (wc := []) hK hN [] rfl (by decide)) gX6_ask_X6_isSlot rfl kd_X6_isSlot ⟨by decide, by decide⟩ (st := []) rfl (Nat.le_of_ble_eq_true rfl) dX6_ask_13 ⟨by decide, by decide⟩) (fun u hu => ?_)
  refine g_if_ne (tgt := 25) B dX6_ask_16 (by decide) (fun _ => ?_) (fun c4 => absurd c4 (by decide))
  refine g_iload_n B dX6_ask_25 3 rfl ?_
  refine g_iconst (v := (0 : Int32)) B dX6_ask_26 (by decide) ?_
  refine g_iconst (v := (2 : Int32)) B dX6_ask_27 (by decide) ?_
  refine g_callP (g_runS B (PM.met (r_isIn_f l (D := D) (cI := cI) (cL := cL) (cZ := cZ) a3 (0 : Int32) (2 : Int32) (by first | assumption | exact hy (by assumption) | exact hz (by assumption)))) (gPp.pre (av := [.int a3, .int (0 : Int32), .int (2 : Int32)]) (wc := []) hK hN [] rfl (by decide)) gX6_ask_X6_isIn rfl kd_X6_isIn ⟨by decide, by decide⟩ (st := []) rfl (Nat.le_of_ble_eq_true rfl) dX6_ask_28 ⟨by decide, by decide⟩) (fun u hu => ?_)
  refine g_if_eq (tgt := 45) B dX6_ask_31 (by decide) (fun _ => ?_) (fun c6 => absurd (by decide) c6)
  refine g_aload_n B dX6_ask_45 0 rfl ?_
  refine g_iconst (v := (2 : Int32)) B dX6_ask_46 (by decide) ?_
  refine g_callW (w2 := (fun (_ : Unit) => [(hm, .inr (6, [.int (2 : Int32), .ref m1, .ref m2, .ref m3, .ref m4, .ref m5, .int dr, .ref m7, .int (0 : Int32), .ref m9, .ref m10, .ref m11, .ref m12, .ref m13, .int rl, .ref m15, .ref m16, .ref m17]))])) (g_runV (q0 := 0) (ci := 6) B hK rfl rfl (r_no l (D := D) (cI := cI) (cL := cL) (cZ := cZ) hm m1 m2 m3 m4 m5 m7 m9 m10 m11 m12 m13 m15 m16 m17 (0 : Int32) dr (0 : Int32) rl (2 : Int32) ) (gPw.pre (av := [.ref hm, .int (2 : Int32)]) (wc := [(hm, .inr (6, [.int (0 : Int32), .ref m1, .ref m2, .ref m3, .ref m4, .ref m5, .int dr, .ref m7, .int (0 : Int32), .ref m9, .ref m10, .ref m11, .ref m12, .ref m13, .int rl, .ref m15, .ref m16, .ref m17]))]) hK hN [0] rfl (by decide)) gX6_ask_X6_no rfl rfl kd_X6_no ⟨by decide, by decide⟩ (st := []) rfl (Nat.le_of_ble_eq_true rfl) dX6_ask_47 ⟨by decide, by decide⟩) hA (fun _ h => h) [0] [] (wr := []) rfl rfl (by decide) (by decide) [0] (by decide) (fun _ => rfl) (fun u hu => ?_)
  exact g_iret_w B hr rfl hlocks () (rfl) (trivial) [0] (by decide) rfl dX6_ask_50

set_option maxHeartbeats 4000000 in
set_option maxRecDepth 100000 in
theorem r_ask_x3 (l : Launch) {D : va_G} {cI cL cZ : ClassId} (hm : Nat) (m1 : Nat) (m2 : Nat) (m3 : Nat) (m4 : Nat) (m5 : Nat) (m7 : Nat) (m9 : Nat) (m10 : Nat) (m11 : Nat) (m12 : Nat) (m13 : Nat) (m15 : Nat) (m16 : Nat) (m17 : Nat) (th : Int32) (dr : Int32) (rl : Int32) (a1 : Int32) (a2 : Int32) (a3 : Int32) (a4 : Int32) (h_a1 : inR a1 0 11 = true) (h_a2 : inR a2 0 3 = true) (h_a3 : inR a3 0 2 = true) (h_a4 : inR a4 0 9 = false) : WM l yX6_ask wsX6_ask ({ frames := 2, cells := 0, slots := 0, locals := 42 } : Room) D (gTys cI cL cZ) [.ref hm, .int a1, .int a2, .int a3, .int a4] [(hm, .inr (6, [.int th, .ref m1, .ref m2, .ref m3, .ref m4, .ref m5, .int dr, .ref m7, .int (0 : Int32), .ref m9, .ref m10, .ref m11, .ref m12, .ref m13, .int rl, .ref m15, .ref m16, .ref m17]))] (fun (_ : Unit) => True) (fun (_ : Unit) => some (.int (0 : Int32))) (fun (_ : Unit) => [(hm, .inr (6, [.int (2 : Int32), .ref m1, .ref m2, .ref m3, .ref m4, .ref m5, .int dr, .ref m7, .int (0 : Int32), .ref m9, .ref m10, .ref m11, .ref m12, .ref m13, .int rl, .ref m15, .ref m16, .ref m17]))]) := by
  refine WM.ofG cX6_ask 5 (some .int) (by decide +kernel) rfl (Nat.le_of_ble_eq_true rfl) ?_
  intro p e s m below meth c A hA B hr hlocks hname hK hN
  refine g_aload_n B dX6_ask_0 0 rfl ?_
  refine g_iconst (v := (0 : Int32)) B dX6_ask_1 (by decide) ?_
  refine g_put (C := RX6) (T := TX6) (N := 18) (ci := 6) B hK hin_X6_ask_RX6 0 rfl rfl 0 (by decide) tyX6 tyX6_ok nmX6 (List.mem_of_getElem? (i := 1) rfl) rfl rfl (ty := .int) (v := .int (0 : Int32)) (by decide +kernel) rfl rfl (Nat.le_of_ble_eq_true rfl) (w2 := [(hm, .inr (6, [.int (0 : Int32), .ref m1, .ref m2, .ref m3, .ref m4, .ref m5, .int dr, .ref m7, .int (0 : Int32), .ref m9, .ref m10, .ref m11, .ref m12, .ref m13, .int rl, .ref m15, .ref m16, .ref m17]))]) rfl (fun _ h => h) dX6_ask_2 ?_
  refine g_iload_n B dX6_ask_5 1 rfl ?_
  refine g_callP (g_runS B (PM.met (r_isNode_t l (D := D) (cI := cI) (cL := cL) (cZ := cZ) a1 (by first | assumption | exact hy (by assumption) | exact hz (by assumption)))) (gPp.pre (av := [.int a1]) (wc := []) hK hN [] rfl (by decide)) gX6_ask_X6_isNode rfl kd_X6_isNode ⟨by decide, by decide⟩ (st := []) rfl (Nat.le_of_ble_eq_true rfl) dX6_ask_6 ⟨by decide, by decide⟩) (fun u hu => ?_)
  refine g_if_eq (tgt := 19) B dX6_ask_9 (by decide) (fun c2 => absurd c2 (by decide)) (fun _ => ?_)
  refine g_iload_n B dX6_ask_12 2 rfl ?_
  refine g_callP (g_runS B (PM.met (r_isSlot_t l (D := D) (cI := cI) (cL := cL) (cZ := cZ) a2 (by first | assumption | exact hy (by assumption) | exact hz (by assumption)))) (gPp.pre (av := [.int a2]) (wc := []) hK hN [] rfl (by decide)) gX6_ask_X6_isSlot rfl kd_X6_isSlot ⟨by decide, by decide⟩ (st := []) rfl (Nat.le_of_ble_eq_true rfl) dX6_ask_13 ⟨by decide, by decide⟩) (fun u hu => ?_)
  refine g_if_ne (tgt := 25) B dX6_ask_16 (by decide) (fun _ => ?_) (fun c4 => absurd c4 (by decide))
  refine g_iload_n B dX6_ask_25 3 rfl ?_
  refine g_iconst (v := (0 : Int32)) B dX6_ask_26 (by decide) ?_
  refine g_iconst (v := (2 : Int32)) B dX6_ask_27 (by decide) ?_
  refine g_callP (g_runS B (PM.met (r_isIn_t l (D := D) (cI := cI) (cL := cL) (cZ := cZ) a3 (0 : Int32) (2 : Int32) (by first | assumption | exact hy (by assumption) | exact hz (by assumption)))) (gPp.pre (av := [.int a3, .int (0 : Int32), .int (2 : Int32)]) (wc := []) hK hN [] rfl (by decide)) gX6_ask_X6_isIn rfl kd_X6_isIn ⟨by decide, by decide⟩ (st := []) rfl (Nat.le_of_ble_eq_true rfl) dX6_ask_28 ⟨by decide, by decide⟩) (fun u hu => ?_)
  refine g_if_eq (tgt := 45) B dX6_ask_31 (by decide) (fun c6 => absurd c6 (by decide)) (fun _ => ?_)
  refine g_iload B dX6_ask_34 4 rfl ?_
  refine g_iconst (v := (0 : Int32)) B dX6_ask_36 (by decide) ?_
  refine g_bipush (v := (9 : Int32)) B dX6_ask_37 (by decide) ?_
  refine g_callP (g_runS B (PM.met (r_isIn_f l (D := D) (cI := cI) (cL := cL) (cZ := cZ) a4 (0 : Int32) (9 : Int32) (by first | assumption | exact hy (by assumption) | exact hz (by assumption)))) (gPp.pre (av := [.int a4, .int (0 : Int32), .int (9 : Int32)]) (wc := []) hK hN [] rfl (by decide)) gX6_ask_X6_isIn rfl kd_X6_isIn ⟨by decide, by decide⟩ (st := []) rfl (Nat.le_of_ble_eq_true rfl) dX6_ask_39 ⟨by decide, by decide⟩) (fun u hu => ?_)
  refine g_if_ne (tgt := 51) B dX6_ask_42 (by decide) (fun c8 => absurd (by decide) c8) (fun _ => ?_)
  refine g_aload_n B dX6_ask_45 0 rfl ?_
  refine g_iconst (v := (2 : Int32)) B dX6_ask_46 (by decide) ?_
  refine g_callW (w2 := (fun (_ : Unit) => [(hm, .inr (6, [.int (2 : Int32), .ref m1, .ref m2, .ref m3, .ref m4, .ref m5, .int dr, .ref m7, .int (0 : Int32), .ref m9, .ref m10, .ref m11, .ref m12, .ref m13, .int rl, .ref m15, .ref m16, .ref m17]))])) (g_runV (q0 := 0) (ci := 6) B hK rfl rfl (r_no l (D := D) (cI := cI) (cL := cL) (cZ := cZ) hm m1 m2 m3 m4 m5 m7 m9 m10 m11 m12 m13 m15 m16 m17 (0 : Int32) dr (0 : Int32) rl (2 : Int32) ) (gPw.pre (av := [.ref hm, .int (2 : Int32)]) (wc := [(hm, .inr (6, [.int (0 : Int32), .ref m1, .ref m2, .ref m3, .ref m4, .ref m5, .int dr, .ref m7, .int (0 : Int32), .ref m9, .ref m10, .ref m11, .ref m12, .ref m13, .int rl, .ref m15, .ref m16, .ref m17]))]) hK hN [0] rfl (by decide)) gX6_ask_X6_no rfl rfl kd_X6_no ⟨by decide, by decide⟩ (st := []) rfl (Nat.le_of_ble_eq_true rfl) dX6_ask_47 ⟨by decide, by decide⟩) hA (fun _ h => h) [0] [] (wr := []) rfl rfl (by decide) (by decide) [0] (by decide) (fun _ => rfl) (fun u hu => ?_)
  exact g_iret_w B hr rfl hlocks () (rfl) (trivial) [0] (by decide) rfl dX6_ask_50

set_option maxHeartbeats 4000000 in
set_option maxRecDepth 100000 in
theorem r_ask_v (l : Launch) {D : va_G} {cI cL cZ : ClassId} (hm : Nat) (m1 : Nat) (m2 : Nat) (m3 : Nat) (m4 : Nat) (m5 : Nat) (m7 : Nat) (m9 : Nat) (m10 : Nat) (m11 : Nat) (m12 : Nat) (m13 : Nat) (m15 : Nat) (m16 : Nat) (m17 : Nat) (th : Int32) (dr : Int32) (rl : Int32) (a1 : Nat) (a2 : Nat) (a3 : Nat) (a4 : Nat) (h1 : a1 < 12) (h2 : a2 < 4) (h3 : a3 < 3) (h4 : a4 < 10) : WM l yX6_ask wsX6_ask ({ frames := 2, cells := 0, slots := 0, locals := 43 } : Room) D (gTys cI cL cZ) [.ref hm, .int (nI a1), .int (nI a2), .int (nI a3), .int (nI a4)] [(hm, .inr (6, [.int th, .ref m1, .ref m2, .ref m3, .ref m4, .ref m5, .int dr, .ref m7, .int (0 : Int32), .ref m9, .ref m10, .ref m11, .ref m12, .ref m13, .int rl, .ref m15, .ref m16, .ref m17])), (m1, .inl (cI, 12, .inl (fun _ => (0 : Int32)))), (m2, .inl (cI, 12, .inl (fun _ => (0 : Int32)))), (m3, .inl (cI, 12, .inl (fun _ => (0 : Int32))))] (fun (_ : Unit) => True) (fun (_ : Unit) => some (.int (0 : Int32))) (fun (_ : Unit) => [(hm, .inr (6, [.int (0 : Int32), .ref m1, .ref m2, .ref m3, .ref m4, .ref m5, .int dr, .ref m7, .int (0 : Int32), .ref m9, .ref m10, .ref m11, .ref m12, .ref m13, .int rl, .ref m15, .ref m16, .ref m17]))]) := by
  refine WM.ofG cX6_ask 5 (some .int) (by decide +kernel) rfl (Nat.le_of_ble_eq_true rfl) ?_
  intro p e s m below meth c A hA B hr hlocks hname hK hN
  refine g_aload_n B dX6_ask_0 0 rfl ?_
  refine g_iconst (v := (0 : Int32)) B dX6_ask_1 (by decide) ?_
  refine g_put (C := RX6) (T := TX6) (N := 18) (ci := 6) B hK hin_X6_ask_RX6 0 rfl rfl 0 (by decide) tyX6 tyX6_ok nmX6 (List.mem_of_getElem? (i := 1) rfl) rfl rfl (ty := .int) (v := .int (0 : Int32)) (by decide +kernel) rfl rfl (Nat.le_of_ble_eq_true rfl) (w2 := [(hm, .inr (6, [.int (0 : Int32), .ref m1, .ref m2, .ref m3, .ref m4, .ref m5, .int dr, .ref m7, .int (0 : Int32), .ref m9, .ref m10, .ref m11, .ref m12, .ref m13, .int rl, .ref m15, .ref m16, .ref m17])), (m1, .inl (cI, 12, .inl (fun _ => (0 : Int32)))), (m2, .inl (cI, 12, .inl (fun _ => (0 : Int32)))), (m3, .inl (cI, 12, .inl (fun _ => (0 : Int32))))]) rfl (fun _ h => h) dX6_ask_2 ?_
  refine g_iload_n B dX6_ask_5 1 rfl ?_
  refine g_callP (g_runS B (PM.met (r_isNode_n l (D := D) (cI := cI) (cL := cL) (cZ := cZ) a1 (by omega))) (gPp.pre (av := [.int (nI a1)]) (wc := []) hK hN [] rfl (by decide)) gX6_ask_X6_isNode rfl kd_X6_isNode ⟨by decide, by decide⟩ (st := []) rfl (Nat.le_of_ble_eq_true rfl) dX6_ask_6 ⟨by decide, by decide⟩) (fun u hu => ?_)
  refine g_if_eq (tgt := 19) B dX6_ask_9 (by decide) (fun c2 => absurd c2 (by decide)) (fun _ => ?_)
  refine g_iload_n B dX6_ask_12 2 rfl ?_
  refine g_callP (g_runS B (PM.met (r_isSlot_n l (D := D) (cI := cI) (cL := cL) (cZ := cZ) a2 (by omega))) (gPp.pre (av := [.int (nI a2)]) (wc := []) hK hN [] rfl (by decide)) gX6_ask_X6_isSlot rfl kd_X6_isSlot ⟨by decide, by decide⟩ (st := []) rfl (Nat.le_of_ble_eq_true rfl) dX6_ask_13 ⟨by decide, by decide⟩) (fun u hu => ?_)
  refine g_if_ne (tgt := 25) B dX6_ask_16 (by decide) (fun _ => ?_) (fun c4 => absurd c4 (by decide))
  refine g_iload_n B dX6_ask_25 3 rfl ?_
  refine g_iconst (v := (0 : Int32)) B dX6_ask_26 (by decide) ?_
  refine g_iconst (v := (2 : Int32)) B dX6_ask_27 (by decide) ?_
  refine g_callP (g_runS B (PM.met (r_isIn_n l (D := D) (cI := cI) (cL := cL) (cZ := cZ) a3 0 2 (by omega) (by omega) (by omega))) (gPp.pre (av := [.int (nI a3), .int (0 : Int32), .int (2 : Int32)]) (wc := []) hK hN [] rfl (by decide)) gX6_ask_X6_isIn rfl kd_X6_isIn ⟨by decide, by decide⟩ (st := []) rfl (Nat.le_of_ble_eq_true rfl) dX6_ask_28 ⟨by decide, by decide⟩) (fun u hu => ?_)
  refine g_if_eq (tgt := 45) B dX6_ask_31 (by decide) (fun c6 => absurd c6 (by decide)) (fun _ => ?_)
  refine g_iload B dX6_ask_34 4 rfl ?_
  refine g_iconst (v := (0 : Int32)) B dX6_ask_36 (by decide) ?_
  refine g_bipush (v := (9 : Int32)) B dX6_ask_37 (by decide) ?_
  refine g_callP (g_runS B (PM.met (r_isIn_n l (D := D) (cI := cI) (cL := cL) (cZ := cZ) a4 0 9 (by omega) (by omega) (by omega))) (gPp.pre (av := [.int (nI a4), .int (0 : Int32), .int (9 : Int32)]) (wc := []) hK hN [] rfl (by decide)) gX6_ask_X6_isIn rfl kd_X6_isIn ⟨by decide, by decide⟩ (st := []) rfl (Nat.le_of_ble_eq_true rfl) dX6_ask_39 ⟨by decide, by decide⟩) (fun u hu => ?_)
  refine g_if_ne (tgt := 51) B dX6_ask_42 (by decide) (fun _ => ?_) (fun c8 => absurd c8 (by decide))
  refine g_aload_n B dX6_ask_51 0 rfl ?_
  refine g_get (C := RX6) (T := TX6) (N := 18) (ci := 6) B hK hin_X6_ask_RX6 0 rfl rfl 1 (by decide) (List.mem_of_getElem? (i := 2) rfl) rfl (v := .ref m1) rfl dX6_ask_52 ?_
  refine g_iload_n B dX6_ask_55 1 rfl ?_
  refine g_iload_n B dX6_ask_56 2 rfl ?_
  refine g_iast B hK 1 0 rfl rfl a1 rfl (by omega) (by omega) (f2 := (upd (fun _ => (0 : Int32)) a1 (nI a2))) (rfl) (w2 := [(hm, .inr (6, [.int (0 : Int32), .ref m1, .ref m2, .ref m3, .ref m4, .ref m5, .int dr, .ref m7, .int (0 : Int32), .ref m9, .ref m10, .ref m11, .ref m12, .ref m13, .int rl, .ref m15, .ref m16, .ref m17])), (m1, .inl (cI, 12, .inl (upd (fun _ => (0 : Int32)) a1 (nI a2)))), (m2, .inl (cI, 12, .inl (fun _ => (0 : Int32)))), (m3, .inl (cI, 12, .inl (fun _ => (0 : Int32))))]) rfl (fun _ h => h) dX6_ask_57 ?_
  refine g_aload_n B dX6_ask_58 0 rfl ?_
  refine g_get (C := RX6) (T := TX6) (N := 18) (ci := 6) B hK hin_X6_ask_RX6 0 rfl rfl 2 (by decide) (List.mem_of_getElem? (i := 3) rfl) rfl (v := .ref m2) rfl dX6_ask_59 ?_
  refine g_iload_n B dX6_ask_62 1 rfl ?_
  refine g_iload_n B dX6_ask_63 3 rfl ?_
  refine g_iast B hK 2 0 rfl rfl a1 rfl (by omega) (by omega) (f2 := (upd (fun _ => (0 : Int32)) a1 (nI a3))) (rfl) (w2 := [(hm, .inr (6, [.int (0 : Int32), .ref m1, .ref m2, .ref m3, .ref m4, .ref m5, .int dr, .ref m7, .int (0 : Int32), .ref m9, .ref m10, .ref m11, .ref m12, .ref m13, .int rl, .ref m15, .ref m16, .ref m17])), (m1, .inl (cI, 12, .inl (upd (fun _ => (0 : Int32)) a1 (nI a2)))), (m2, .inl (cI, 12, .inl (upd (fun _ => (0 : Int32)) a1 (nI a3)))), (m3, .inl (cI, 12, .inl (fun _ => (0 : Int32))))]) rfl (fun _ h => h) dX6_ask_64 ?_
  refine g_aload_n B dX6_ask_65 0 rfl ?_
  refine g_get (C := RX6) (T := TX6) (N := 18) (ci := 6) B hK hin_X6_ask_RX6 0 rfl rfl 3 (by decide) (List.mem_of_getElem? (i := 4) rfl) rfl (v := .ref m3) rfl dX6_ask_66 ?_
  refine g_iload_n B dX6_ask_69 1 rfl ?_
  refine g_iload B dX6_ask_70 4 rfl ?_
  refine g_iast B hK 3 0 rfl rfl a1 rfl (by omega) (by omega) (f2 := (upd (fun _ => (0 : Int32)) a1 (nI a4))) (rfl) (w2 := [(hm, .inr (6, [.int (0 : Int32), .ref m1, .ref m2, .ref m3, .ref m4, .ref m5, .int dr, .ref m7, .int (0 : Int32), .ref m9, .ref m10, .ref m11, .ref m12, .ref m13, .int rl, .ref m15, .ref m16, .ref m17])), (m1, .inl (cI, 12, .inl (upd (fun _ => (0 : Int32)) a1 (nI a2)))), (m2, .inl (cI, 12, .inl (upd (fun _ => (0 : Int32)) a1 (nI a3)))), (m3, .inl (cI, 12, .inl (upd (fun _ => (0 : Int32)) a1 (nI a4))))]) rfl (fun _ h => h) dX6_ask_72 ?_
  refine g_aload_n B dX6_ask_73 0 rfl ?_
  refine g_callP (g_runV (q0 := 0) (ci := 6) B hK rfl rfl (PM.met (r_changed_0 l (D := D) (cI := cI) (cL := cL) (cZ := cZ) hm m1 m2 m3 m4 m5 m7 m9 m10 m11 m12 m13 m15 m16 m17 (0 : Int32) dr rl )) (gPp.pre (av := [.ref hm]) (wc := [(hm, .inr (6, [.int (0 : Int32), .ref m1, .ref m2, .ref m3, .ref m4, .ref m5, .int dr, .ref m7, .int (0 : Int32), .ref m9, .ref m10, .ref m11, .ref m12, .ref m13, .int rl, .ref m15, .ref m16, .ref m17]))]) hK hN [0] rfl (by decide)) gX6_ask_X6_changed rfl rfl kd_X6_changed ⟨by decide, by decide⟩ (st := []) rfl (Nat.le_of_ble_eq_true rfl) dX6_ask_74 ⟨by decide, by decide⟩) (fun u hu => ?_)
  exact g_iret_w B hr rfl hlocks () (rfl) (trivial) [0] (by decide) rfl dX6_ask_77

set_option maxHeartbeats 4000000 in
set_option maxRecDepth 100000 in
theorem r_lead_x0 (l : Launch) {D : va_G} {cI cL cZ : ClassId} (hm : Nat) (m1 : Nat) (m2 : Nat) (m3 : Nat) (m4 : Nat) (m5 : Nat) (m7 : Nat) (m9 : Nat) (m10 : Nat) (m11 : Nat) (m12 : Nat) (m13 : Nat) (m15 : Nat) (m16 : Nat) (m17 : Nat) (th : Int32) (dr : Int32) (rl : Int32) (a1 : Int32) (a2 : Int32) (a3 : Int32) (h1 : inR a1 0 11 = false) : WM l yX6_lead wsX6_lead ({ frames := 2, cells := 0, slots := 0, locals := 42 } : Room) D (gTys cI cL cZ) [.ref hm, .int a1, .int a2, .int a3] [(hm, .inr (6, [.int th, .ref m1, .ref m2, .ref m3, .ref m4, .ref m5, .int dr, .ref m7, .int (0 : Int32), .ref m9, .ref m10, .ref m11, .ref m12, .ref m13, .int rl, .ref m15, .ref m16, .ref m17]))] (fun (_ : Unit) => True) (fun (_ : Unit) => some (.int (0 : Int32))) (fun (_ : Unit) => [(hm, .inr (6, [.int (1 : Int32), .ref m1, .ref m2, .ref m3, .ref m4, .ref m5, .int dr, .ref m7, .int (0 : Int32), .ref m9, .ref m10, .ref m11, .ref m12, .ref m13, .int rl, .ref m15, .ref m16, .ref m17]))]) := by
  refine WM.ofG cX6_lead 4 (some .int) (by decide +kernel) rfl (Nat.le_of_ble_eq_true rfl) ?_
  intro p e s m below meth c A hA B hr hlocks hname hK hN
  refine g_aload_n B dX6_lead_0 0 rfl ?_
  refine g_iconst (v := (0 : Int32)) B dX6_lead_1 (by decide) ?_
  refine g_put (C := RX6) (T := TX6) (N := 18) (ci := 6) B hK hin_X6_lead_RX6 0 rfl rfl 0 (by decide) tyX6 tyX6_ok nmX6 (List.mem_of_getElem? (i := 1) rfl) rfl rfl (ty := .int) (v := .int (0 : Int32)) (by decide +kernel) rfl rfl (Nat.le_of_ble_eq_true rfl) (w2 := [(hm, .inr (6, [.int (0 : Int32), .ref m1, .ref m2, .ref m3, .ref m4, .ref m5, .int dr, .ref m7, .int (0 : Int32), .ref m9, .ref m10, .ref m11, .ref m12, .ref m13, .int rl, .ref m15, .ref m16, .ref m17]))]) rfl (fun _ h => h) dX6_lead_2 ?_
  refine g_iload_n B dX6_lead_5 1 rfl ?_
  refine g_callP (g_runS B (PM.met (r_isNode_f l (D := D) (cI := cI) (cL := cL) (cZ := cZ) a1 (by first | assumption | exact hy (by assumption) | exact hz (by assumption)))) (gPp.pre (av := [.int a1]) (wc := []) hK hN [] rfl (by decide)) gX6_lead_X6_isNode rfl kd_X6_isNode ⟨by decide, by decide⟩ (st := []) rfl (Nat.le_of_ble_eq_true rfl) dX6_lead_6 ⟨by decide, by decide⟩) (fun u hu => ?_)
  refine g_if_eq (tgt := 36) B dX6_lead_9 (by decide) (fun _ => ?_) (fun c2 => absurd (by decide) c2)
  refine g_aload_n B dX6_lead_36 0 rfl ?_
  refine g_iconst (v := (1 : Int32)) B dX6_lead_37 (by decide) ?_
  refine g_callW (w2 := (fun (_ : Unit) => [(hm, .inr (6, [.int (1 : Int32), .ref m1, .ref m2, .ref m3, .ref m4, .ref m5, .int dr, .ref m7, .int (0 : Int32), .ref m9, .ref m10, .ref m11, .ref m12, .ref m13, .int rl, .ref m15, .ref m16, .ref m17]))])) (g_runV (q0 := 0) (ci := 6) B hK rfl rfl (r_no l (D := D) (cI := cI) (cL := cL) (cZ := cZ) hm m1 m2 m3 m4 m5 m7 m9 m10 m11 m12 m13 m15 m16 m17 (0 : Int32) dr (0 : Int32) rl (1 : Int32) ) (gPw.pre (av := [.ref hm, .int (1 : Int32)]) (wc := [(hm, .inr (6, [.int (0 : Int32), .ref m1, .ref m2, .ref m3, .ref m4, .ref m5, .int dr, .ref m7, .int (0 : Int32), .ref m9, .ref m10, .ref m11, .ref m12, .ref m13, .int rl, .ref m15, .ref m16, .ref m17]))]) hK hN [0] rfl (by decide)) gX6_lead_X6_no rfl rfl kd_X6_no ⟨by decide, by decide⟩ (st := []) rfl (Nat.le_of_ble_eq_true rfl) dX6_lead_38 ⟨by decide, by decide⟩) hA (fun _ h => h) [0] [] (wr := []) rfl rfl (by decide) (by decide) [0] (by decide) (fun _ => rfl) (fun u hu => ?_)
  exact g_iret_w B hr rfl hlocks () (rfl) (trivial) [0] (by decide) rfl dX6_lead_41

set_option maxHeartbeats 4000000 in
set_option maxRecDepth 100000 in
theorem r_lead_x1 (l : Launch) {D : va_G} {cI cL cZ : ClassId} (hm : Nat) (m1 : Nat) (m2 : Nat) (m3 : Nat) (m4 : Nat) (m5 : Nat) (m7 : Nat) (m9 : Nat) (m10 : Nat) (m11 : Nat) (m12 : Nat) (m13 : Nat) (m15 : Nat) (m16 : Nat) (m17 : Nat) (th : Int32) (dr : Int32) (rl : Int32) (a1 : Int32) (a2 : Int32) (a3 : Int32) (h1 : inR a1 0 11 = true) (h2 : ¬ a2 = -1) (h3 : inR a2 0 11 = false) : WM l yX6_lead wsX6_lead ({ frames := 2, cells := 0, slots := 0, locals := 42 } : Room) D (gTys cI cL cZ) [.ref hm, .int a1, .int a2, .int a3] [(hm, .inr (6, [.int th, .ref m1, .ref m2, .ref m3, .ref m4, .ref m5, .int dr, .ref m7, .int (0 : Int32), .ref m9, .ref m10, .ref m11, .ref m12, .ref m13, .int rl, .ref m15, .ref m16, .ref m17]))] (fun (_ : Unit) => True) (fun (_ : Unit) => some (.int (0 : Int32))) (fun (_ : Unit) => [(hm, .inr (6, [.int (1 : Int32), .ref m1, .ref m2, .ref m3, .ref m4, .ref m5, .int dr, .ref m7, .int (0 : Int32), .ref m9, .ref m10, .ref m11, .ref m12, .ref m13, .int rl, .ref m15, .ref m16, .ref m17]))]) := by
  refine WM.ofG cX6_lead 4 (some .int) (by decide +kernel) rfl (Nat.le_of_ble_eq_true rfl) ?_
  intro p e s m below meth c A hA B hr hlocks hname hK hN
  refine g_aload_n B dX6_lead_0 0 rfl ?_
  refine g_iconst (v := (0 : Int32)) B dX6_lead_1 (by decide) ?_
  refine g_put (C := RX6) (T := TX6) (N := 18) (ci := 6) B hK hin_X6_lead_RX6 0 rfl rfl 0 (by decide) tyX6 tyX6_ok nmX6 (List.mem_of_getElem? (i := 1) rfl) rfl rfl (ty := .int) (v := .int (0 : Int32)) (by decide +kernel) rfl rfl (Nat.le_of_ble_eq_true rfl) (w2 := [(hm, .inr (6, [.int (0 : Int32), .ref m1, .ref m2, .ref m3, .ref m4, .ref m5, .int dr, .ref m7, .int (0 : Int32), .ref m9, .ref m10, .ref m11, .ref m12, .ref m13, .int rl, .ref m15, .ref m16, .ref m17]))]) rfl (fun _ h => h) dX6_lead_2 ?_
  refine g_iload_n B dX6_lead_5 1 rfl ?_
  refine g_callP (g_runS B (PM.met (r_isNode_t l (D := D) (cI := cI) (cL := cL) (cZ := cZ) a1 (by first | assumption | exact hy (by assumption) | exact hz (by assumption)))) (gPp.pre (av := [.int a1]) (wc := []) hK hN [] rfl (by decide)) gX6_lead_X6_isNode rfl kd_X6_isNode ⟨by decide, by decide⟩ (st := []) rfl (Nat.le_of_ble_eq_true rfl) dX6_lead_6 ⟨by decide, by decide⟩) (fun u hu => ?_)
  refine g_if_eq (tgt := 36) B dX6_lead_9 (by decide) (fun c2 => absurd c2 (by decide)) (fun _ => ?_)
  refine g_iload_n B dX6_lead_12 2 rfl ?_
  refine g_iconst (v := (-1 : Int32)) B dX6_lead_13 (by decide) ?_
  refine g_icmp_eq (tgt := 24) B dX6_lead_14 (by decide) (fun c3 => ?_) (fun c3 => ?_)
  · exfalso; exact h2 c3
  refine g_iload_n B dX6_lead_17 2 rfl ?_
  refine g_callP (g_runS B (PM.met (r_isNode_f l (D := D) (cI := cI) (cL := cL) (cZ := cZ) a2 (by first | assumption | exact hy (by assumption) | exact hz (by assumption)))) (gPp.pre (av := [.int a2]) (wc := []) hK hN [] rfl (by decide)) gX6_lead_X6_isNode rfl kd_X6_isNode ⟨by decide, by decide⟩ (st := []) rfl (Nat.le_of_ble_eq_true rfl) dX6_lead_18 ⟨by decide, by decide⟩) (fun u hu => ?_)
  refine g_if_eq (tgt := 36) B dX6_lead_21 (by decide) (fun _ => ?_) (fun c5 => absurd (by decide) c5)
  refine g_aload_n B dX6_lead_36 0 rfl ?_
  refine g_iconst (v := (1 : Int32)) B dX6_lead_37 (by decide) ?_
  refine g_callW (w2 := (fun (_ : Unit) => [(hm, .inr (6, [.int (1 : Int32), .ref m1, .ref m2, .ref m3, .ref m4, .ref m5, .int dr, .ref m7, .int (0 : Int32), .ref m9, .ref m10, .ref m11, .ref m12, .ref m13, .int rl, .ref m15, .ref m16, .ref m17]))])) (g_runV (q0 := 0) (ci := 6) B hK rfl rfl (r_no l (D := D) (cI := cI) (cL := cL) (cZ := cZ) hm m1 m2 m3 m4 m5 m7 m9 m10 m11 m12 m13 m15 m16 m17 (0 : Int32) dr (0 : Int32) rl (1 : Int32) ) (gPw.pre (av := [.ref hm, .int (1 : Int32)]) (wc := [(hm, .inr (6, [.int (0 : Int32), .ref m1, .ref m2, .ref m3, .ref m4, .ref m5, .int dr, .ref m7, .int (0 : Int32), .ref m9, .ref m10, .ref m11, .ref m12, .ref m13, .int rl, .ref m15, .ref m16, .ref m17]))]) hK hN [0] rfl (by decide)) gX6_lead_X6_no rfl rfl kd_X6_no ⟨by decide, by decide⟩ (st := []) rfl (Nat.le_of_ble_eq_true rfl) dX6_lead_38 ⟨by decide, by decide⟩) hA (fun _ h => h) [0] [] (wr := []) rfl rfl (by decide) (by decide) [0] (by decide) (fun _ => rfl) (fun u hu => ?_)
  exact g_iret_w B hr rfl hlocks () (rfl) (trivial) [0] (by decide) rfl dX6_lead_41

set_option maxHeartbeats 4000000 in
set_option maxRecDepth 100000 in
theorem r_lead_x2 (l : Launch) {D : va_G} {cI cL cZ : ClassId} (hm : Nat) (m1 : Nat) (m2 : Nat) (m3 : Nat) (m4 : Nat) (m5 : Nat) (m7 : Nat) (m9 : Nat) (m10 : Nat) (m11 : Nat) (m12 : Nat) (m13 : Nat) (m15 : Nat) (m16 : Nat) (m17 : Nat) (th : Int32) (dr : Int32) (rl : Int32) (a1 : Int32) (a2 : Int32) (a3 : Int32) (h1 : inR a1 0 11 = true) (hy : ¬ a2 = -1 → inR a2 0 11 = true) (h2 : ¬ a3 = -1) (h3 : inR a3 0 11 = false) : WM l yX6_lead wsX6_lead ({ frames := 2, cells := 0, slots := 0, locals := 42 } : Room) D (gTys cI cL cZ) [.ref hm, .int a1, .int a2, .int a3] [(hm, .inr (6, [.int th, .ref m1, .ref m2, .ref m3, .ref m4, .ref m5, .int dr, .ref m7, .int (0 : Int32), .ref m9, .ref m10, .ref m11, .ref m12, .ref m13, .int rl, .ref m15, .ref m16, .ref m17]))] (fun (_ : Unit) => True) (fun (_ : Unit) => some (.int (0 : Int32))) (fun (_ : Unit) => [(hm, .inr (6, [.int (1 : Int32), .ref m1, .ref m2, .ref m3, .ref m4, .ref m5, .int dr, .ref m7, .int (0 : Int32), .ref m9, .ref m10, .ref m11, .ref m12, .ref m13, .int rl, .ref m15, .ref m16, .ref m17]))]) := by
  refine WM.ofG cX6_lead 4 (some .int) (by decide +kernel) rfl (Nat.le_of_ble_eq_true rfl) ?_
  intro p e s m below meth c A hA B hr hlocks hname hK hN
  refine g_aload_n B dX6_lead_0 0 rfl ?_
  refine g_iconst (v := (0 : Int32)) B dX6_lead_1 (by decide) ?_
  refine g_put (C := RX6) (T := TX6) (N := 18) (ci := 6) B hK hin_X6_lead_RX6 0 rfl rfl 0 (by decide) tyX6 tyX6_ok nmX6 (List.mem_of_getElem? (i := 1) rfl) rfl rfl (ty := .int) (v := .int (0 : Int32)) (by decide +kernel) rfl rfl (Nat.le_of_ble_eq_true rfl) (w2 := [(hm, .inr (6, [.int (0 : Int32), .ref m1, .ref m2, .ref m3, .ref m4, .ref m5, .int dr, .ref m7, .int (0 : Int32), .ref m9, .ref m10, .ref m11, .ref m12, .ref m13, .int rl, .ref m15, .ref m16, .ref m17]))]) rfl (fun _ h => h) dX6_lead_2 ?_
  refine g_iload_n B dX6_lead_5 1 rfl ?_
  refine g_callP (g_runS B (PM.met (r_isNode_t l (D := D) (cI := cI) (cL := cL) (cZ := cZ) a1 (by first | assumption | exact hy (by assumption) | exact hz (by assumption)))) (gPp.pre (av := [.int a1]) (wc := []) hK hN [] rfl (by decide)) gX6_lead_X6_isNode rfl kd_X6_isNode ⟨by decide, by decide⟩ (st := []) rfl (Nat.le_of_ble_eq_true rfl) dX6_lead_6 ⟨by decide, by decide⟩) (fun u hu => ?_)
  refine g_if_eq (tgt := 36) B dX6_lead_9 (by decide) (fun c2 => absurd c2 (by decide)) (fun _ => ?_)
  refine g_iload_n B dX6_lead_12 2 rfl ?_
  refine g_iconst (v := (-1 : Int32)) B dX6_lead_13 (by decide) ?_
  refine g_icmp_eq (tgt := 24) B dX6_lead_14 (by decide) (fun c3 => ?_) (fun c3 => ?_)
  · refine g_iload_n B dX6_lead_24 3 rfl ?_
    refine g_iconst (v := (-1 : Int32)) B dX6_lead_25 (by decide) ?_
    refine g_icmp_eq (tgt := 42) B dX6_lead_26 (by decide) (fun c4 => ?_) (fun c4 => ?_)
    · exfalso; exact h2 c4
    refine g_iload_n B dX6_lead_29 3 rfl ?_
    refine g_callP (g_runS B (PM.met (r_isNode_f l (D := D) (cI := cI) (cL := cL) (cZ := cZ) a3 (by first | assumption | exact hy (by assumption) | exact hz (by assumption)))) (gPp.pre (av := [.int a3]) (wc := []) hK hN [] rfl (by decide)) gX6_lead_X6_isNode rfl kd_X6_isNode ⟨by decide, by decide⟩ (st := []) rfl (Nat.le_of_ble_eq_true rfl) dX6_lead_30 ⟨by decide, by decide⟩) (fun u hu => ?_)
    refine g_if_ne (tgt := 42) B dX6_lead_33 (by decide) (fun c6 => absurd (by decide) c6) (fun _ => ?_)
    refine g_aload_n B dX6_lead_36 0 rfl ?_
    refine g_iconst (v := (1 : Int32)) B dX6_lead_37 (by decide) ?_
    refine g_callW (w2 := (fun (_ : Unit) => [(hm, .inr (6, [.int (1 : Int32), .ref m1, .ref m2, .ref m3, .ref m4, .ref m5, .int dr, .ref m7, .int (0 : Int32), .ref m9, .ref m10, .ref m11, .ref m12, .ref m13, .int rl, .ref m15, .ref m16, .ref m17]))])) (g_runV (q0 := 0) (ci := 6) B hK rfl rfl (r_no l (D := D) (cI := cI) (cL := cL) (cZ := cZ) hm m1 m2 m3 m4 m5 m7 m9 m10 m11 m12 m13 m15 m16 m17 (0 : Int32) dr (0 : Int32) rl (1 : Int32) ) (gPw.pre (av := [.ref hm, .int (1 : Int32)]) (wc := [(hm, .inr (6, [.int (0 : Int32), .ref m1, .ref m2, .ref m3, .ref m4, .ref m5, .int dr, .ref m7, .int (0 : Int32), .ref m9, .ref m10, .ref m11, .ref m12, .ref m13, .int rl, .ref m15, .ref m16, .ref m17]))]) hK hN [0] rfl (by decide)) gX6_lead_X6_no rfl rfl kd_X6_no ⟨by decide, by decide⟩ (st := []) rfl (Nat.le_of_ble_eq_true rfl) dX6_lead_38 ⟨by decide, by decide⟩) hA (fun _ h => h) [0] [] (wr := []) rfl rfl (by decide) (by decide) [0] (by decide) (fun _ => rfl) (fun u hu => ?_)
    exact g_iret_w B hr rfl hlocks () (rfl) (trivial) [0] (by decide) rfl dX6_lead_41
  · refine g_iload_n B dX6_lead_17 2 rfl ?_
    refine g_callP (g_runS B (PM.met (r_isNode_t l (D := D) (cI := cI) (cL := cL) (cZ := cZ) a2 (by first | assumption | exact hy (by assumption) | exact hz (by assumption)))) (gPp.pre (av := [.int a2]) (wc := []) hK hN [] rfl (by decide)) gX6_lead_X6_isNode rfl kd_X6_isNode ⟨by decide, by decide⟩ (st := []) rfl (Nat.le_of_ble_eq_true rfl) dX6_lead_18 ⟨by decide, by decide⟩) (fun u hu => ?_)
    refine g_if_eq (tgt := 36) B dX6_lead_21 (by decide) (fun c9 => absurd c9 (by decide)) (fun _ => ?_)
    refine g_iload_n B dX6_lead_24 3 rfl ?_
    refine g_iconst (v := (-1 : Int32)) B dX6_lead_25 (by decide) ?_
    refine g_icmp_eq (tgt := 42) B dX6_lead_26 (by decide) (fun c10 => ?_) (fun c10 => ?_)
    · exfalso; exact h2 c10
    refine g_iload_n B dX6_lead_29 3 rfl ?_
    refine g_callP (g_runS B (PM.met (r_isNode_f l (D := D) (cI := cI) (cL := cL) (cZ := cZ) a3 (by first | assumption | exact hy (by assumption) | exact hz (by assumption)))) (gPp.pre (av := [.int a3]) (wc := []) hK hN [] rfl (by decide)) gX6_lead_X6_isNode rfl kd_X6_isNode ⟨by decide, by decide⟩ (st := []) rfl (Nat.le_of_ble_eq_true rfl) dX6_lead_30 ⟨by decide, by decide⟩) (fun u hu => ?_)
    refine g_if_ne (tgt := 42) B dX6_lead_33 (by decide) (fun c12 => absurd (by decide) c12) (fun _ => ?_)
    refine g_aload_n B dX6_lead_36 0 rfl ?_
    refine g_iconst (v := (1 : Int32)) B dX6_lead_37 (by decide) ?_
    refine g_callW (w2 := (fun (_ : Unit) => [(hm, .inr (6, [.int (1 : Int32), .ref m1, .ref m2, .ref m3, .ref m4, .ref m5, .int dr, .ref m7, .int (0 : Int32), .ref m9, .ref m10, .ref m11, .ref m12, .ref m13, .int rl, .ref m15, .ref m16, .ref m17]))])) (g_runV (q0 := 0) (ci := 6) B hK rfl rfl (r_no l (D := D) (cI := cI) (cL := cL) (cZ := cZ) hm m1 m2 m3 m4 m5 m7 m9 m10 m11 m12 m13 m15 m16 m17 (0 : Int32) dr (0 : Int32) rl (1 : Int32) ) (gPw.pre (av := [.ref hm, .int (1 : Int32)]) (wc := [(hm, .inr (6, [.int (0 : Int32), .ref m1, .ref m2, .ref m3, .ref m4, .ref m5, .int dr, .ref m7, .int (0 : Int32), .ref m9, .ref m10, .ref m11, .ref m12, .ref m13, .int rl, .ref m15, .ref m16, .ref m17]))]) hK hN [0] rfl (by decide)) gX6_lead_X6_no rfl rfl kd_X6_no ⟨by decide, by decide⟩ (st := []) rfl (Nat.le_of_ble_eq_true rfl) dX6_lead_38 ⟨by decide, by decide⟩) hA (fun _ h => h) [0] [] (wr := []) rfl rfl (by decide) (by decide) [0] (by decide) (fun _ => rfl) (fun u hu => ?_)
    exact g_iret_w B hr rfl hlocks () (rfl) (trivial) [0] (by decide) rfl dX6_lead_41

set_option maxHeartbeats 4000000 in
set_option maxRecDepth 100000 in
theorem r_lead_v (l : Launch) {D : va_G} {cI cL cZ : ClassId} (hm : Nat) (m1 : Nat) (m2 : Nat) (m3 : Nat) (m4 : Nat) (m5 : Nat) (m7 : Nat) (m9 : Nat) (m10 : Nat) (m11 : Nat) (m12 : Nat) (m13 : Nat) (m15 : Nat) (m16 : Nat) (m17 : Nat) (th : Int32) (dr : Int32) (rl : Int32) (a1 : Nat) (a2 : Int32) (a3 : Int32) (h1 : a1 < 12) (hy : ¬ a2 = -1 → inR a2 0 11 = true) (hz : ¬ a3 = -1 → inR a3 0 11 = true) : WM l yX6_lead wsX6_lead ({ frames := 2, cells := 0, slots := 0, locals := 43 } : Room) D (gTys cI cL cZ) [.ref hm, .int (nI a1), .int a2, .int a3] [(hm, .inr (6, [.int th, .ref m1, .ref m2, .ref m3, .ref m4, .ref m5, .int dr, .ref m7, .int (0 : Int32), .ref m9, .ref m10, .ref m11, .ref m12, .ref m13, .int rl, .ref m15, .ref m16, .ref m17])), (m4, .inl (cI, 24, .inl (fun _ => (-1 : Int32))))] (fun (_ : Unit) => True) (fun (_ : Unit) => some (.int (0 : Int32))) (fun (_ : Unit) => [(hm, .inr (6, [.int (0 : Int32), .ref m1, .ref m2, .ref m3, .ref m4, .ref m5, .int dr, .ref m7, .int (0 : Int32), .ref m9, .ref m10, .ref m11, .ref m12, .ref m13, .int rl, .ref m15, .ref m16, .ref m17]))]) := by
  refine WM.ofG cX6_lead 4 (some .int) (by decide +kernel) rfl (Nat.le_of_ble_eq_true rfl) ?_
  intro p e s m below meth c A hA B hr hlocks hname hK hN
  refine g_aload_n B dX6_lead_0 0 rfl ?_
  refine g_iconst (v := (0 : Int32)) B dX6_lead_1 (by decide) ?_
  refine g_put (C := RX6) (T := TX6) (N := 18) (ci := 6) B hK hin_X6_lead_RX6 0 rfl rfl 0 (by decide) tyX6 tyX6_ok nmX6 (List.mem_of_getElem? (i := 1) rfl) rfl rfl (ty := .int) (v := .int (0 : Int32)) (by decide +kernel) rfl rfl (Nat.le_of_ble_eq_true rfl) (w2 := [(hm, .inr (6, [.int (0 : Int32), .ref m1, .ref m2, .ref m3, .ref m4, .ref m5, .int dr, .ref m7, .int (0 : Int32), .ref m9, .ref m10, .ref m11, .ref m12, .ref m13, .int rl, .ref m15, .ref m16, .ref m17])), (m4, .inl (cI, 24, .inl (fun _ => (-1 : Int32))))]) rfl (fun _ h => h) dX6_lead_2 ?_
  refine g_iload_n B dX6_lead_5 1 rfl ?_
  refine g_callP (g_runS B (PM.met (r_isNode_n l (D := D) (cI := cI) (cL := cL) (cZ := cZ) a1 (by omega))) (gPp.pre (av := [.int (nI a1)]) (wc := []) hK hN [] rfl (by decide)) gX6_lead_X6_isNode rfl kd_X6_isNode ⟨by decide, by decide⟩ (st := []) rfl (Nat.le_of_ble_eq_true rfl) dX6_lead_6 ⟨by decide, by decide⟩) (fun u hu => ?_)
  refine g_if_eq (tgt := 36) B dX6_lead_9 (by decide) (fun c2 => absurd c2 (by decide)) (fun _ => ?_)
  refine g_iload_n B dX6_lead_12 2 rfl ?_
  refine g_iconst (v := (-1 : Int32)) B dX6_lead_13 (by decide) ?_
  refine g_icmp_eq (tgt := 24) B dX6_lead_14 (by decide) (fun c3 => ?_) (fun c3 => ?_)
  · refine g_iload_n B dX6_lead_24 3 rfl ?_
    refine g_iconst (v := (-1 : Int32)) B dX6_lead_25 (by decide) ?_
    refine g_icmp_eq (tgt := 42) B dX6_lead_26 (by decide) (fun c4 => ?_) (fun c4 => ?_)
    · refine g_aload_n B dX6_lead_42 0 rfl ?_
      refine g_get (C := RX6) (T := TX6) (N := 18) (ci := 6) B hK hin_X6_lead_RX6 0 rfl rfl 4 (by decide) (List.mem_of_getElem? (i := 2) rfl) rfl (v := .ref m4) rfl dX6_lead_43 ?_
      refine g_iconst (v := (2 : Int32)) B dX6_lead_46 (by decide) ?_
      refine g_iload_n B dX6_lead_47 1 rfl ?_
      refine g_imul (v := nI (2 * a1)) B dX6_lead_48 (pk_mul 2 a1) ?_
      refine g_iload_n B dX6_lead_49 2 rfl ?_
      refine g_iast B hK 1 0 rfl rfl (2 * a1) rfl (by omega) (by omega) (f2 := (upd (fun _ => (-1 : Int32)) (2 * a1) a2)) (rfl) (w2 := [(hm, .inr (6, [.int (0 : Int32), .ref m1, .ref m2, .ref m3, .ref m4, .ref m5, .int dr, .ref m7, .int (0 : Int32), .ref m9, .ref m10, .ref m11, .ref m12, .ref m13, .int rl, .ref m15, .ref m16, .ref m17])), (m4, .inl (cI, 24, .inl (upd (fun _ => (-1 : Int32)) (2 * a1) a2)))]) rfl (fun _ h => h) dX6_lead_50 ?_
      refine g_aload_n B dX6_lead_51 0 rfl ?_
      refine g_get (C := RX6) (T := TX6) (N := 18) (ci := 6) B hK hin_X6_lead_RX6 0 rfl rfl 4 (by decide) (List.mem_of_getElem? (i := 2) rfl) rfl (v := .ref m4) rfl dX6_lead_52 ?_
      refine g_iconst (v := (2 : Int32)) B dX6_lead_55 (by decide) ?_
      refine g_iload_n B dX6_lead_56 1 rfl ?_
      refine g_imul (v := nI (2 * a1)) B dX6_lead_57 (pk_mul 2 a1) ?_
      refine g_iconst (v := (1 : Int32)) B dX6_lead_58 (by decide) ?_
      refine g_iadd (v := nI ((2 * a1) + 1)) B dX6_lead_59 (nI_add (2 * a1) 1) ?_
      refine g_iload_n B dX6_lead_60 3 rfl ?_
      refine g_iast B hK 1 0 rfl rfl ((2 * a1) + 1) rfl (by omega) (by omega) (f2 := (upd (upd (fun _ => (-1 : Int32)) (2 * a1) a2) ((2 * a1) + 1) a3)) (rfl) (w2 := [(hm, .inr (6, [.int (0 : Int32), .ref m1, .ref m2, .ref m3, .ref m4, .ref m5, .int dr, .ref m7, .int (0 : Int32), .ref m9, .ref m10, .ref m11, .ref m12, .ref m13, .int rl, .ref m15, .ref m16, .ref m17])), (m4, .inl (cI, 24, .inl (upd (upd (fun _ => (-1 : Int32)) (2 * a1) a2) ((2 * a1) + 1) a3)))]) rfl (fun _ h => h) dX6_lead_61 ?_
      refine g_aload_n B dX6_lead_62 0 rfl ?_
      refine g_callP (g_runV (q0 := 0) (ci := 6) B hK rfl rfl (PM.met (r_changed_0 l (D := D) (cI := cI) (cL := cL) (cZ := cZ) hm m1 m2 m3 m4 m5 m7 m9 m10 m11 m12 m13 m15 m16 m17 (0 : Int32) dr rl )) (gPp.pre (av := [.ref hm]) (wc := [(hm, .inr (6, [.int (0 : Int32), .ref m1, .ref m2, .ref m3, .ref m4, .ref m5, .int dr, .ref m7, .int (0 : Int32), .ref m9, .ref m10, .ref m11, .ref m12, .ref m13, .int rl, .ref m15, .ref m16, .ref m17]))]) hK hN [0] rfl (by decide)) gX6_lead_X6_changed rfl rfl kd_X6_changed ⟨by decide, by decide⟩ (st := []) rfl (Nat.le_of_ble_eq_true rfl) dX6_lead_63 ⟨by decide, by decide⟩) (fun u hu => ?_)
      exact g_iret_w B hr rfl hlocks () (rfl) (trivial) [0] (by decide) rfl dX6_lead_66
    · refine g_iload_n B dX6_lead_29 3 rfl ?_
      refine g_callP (g_runS B (PM.met (r_isNode_t l (D := D) (cI := cI) (cL := cL) (cZ := cZ) a3 (by first | assumption | exact hy (by assumption) | exact hz (by assumption)))) (gPp.pre (av := [.int a3]) (wc := []) hK hN [] rfl (by decide)) gX6_lead_X6_isNode rfl kd_X6_isNode ⟨by decide, by decide⟩ (st := []) rfl (Nat.le_of_ble_eq_true rfl) dX6_lead_30 ⟨by decide, by decide⟩) (fun u hu => ?_)
      refine g_if_ne (tgt := 42) B dX6_lead_33 (by decide) (fun _ => ?_) (fun c7 => absurd c7 (by decide))
      refine g_aload_n B dX6_lead_42 0 rfl ?_
      refine g_get (C := RX6) (T := TX6) (N := 18) (ci := 6) B hK hin_X6_lead_RX6 0 rfl rfl 4 (by decide) (List.mem_of_getElem? (i := 2) rfl) rfl (v := .ref m4) rfl dX6_lead_43 ?_
      refine g_iconst (v := (2 : Int32)) B dX6_lead_46 (by decide) ?_
      refine g_iload_n B dX6_lead_47 1 rfl ?_
      refine g_imul (v := nI (2 * a1)) B dX6_lead_48 (pk_mul 2 a1) ?_
      refine g_iload_n B dX6_lead_49 2 rfl ?_
      refine g_iast B hK 1 0 rfl rfl (2 * a1) rfl (by omega) (by omega) (f2 := (upd (fun _ => (-1 : Int32)) (2 * a1) a2)) (rfl) (w2 := [(hm, .inr (6, [.int (0 : Int32), .ref m1, .ref m2, .ref m3, .ref m4, .ref m5, .int dr, .ref m7, .int (0 : Int32), .ref m9, .ref m10, .ref m11, .ref m12, .ref m13, .int rl, .ref m15, .ref m16, .ref m17])), (m4, .inl (cI, 24, .inl (upd (fun _ => (-1 : Int32)) (2 * a1) a2)))]) rfl (fun _ h => h) dX6_lead_50 ?_
      refine g_aload_n B dX6_lead_51 0 rfl ?_
      refine g_get (C := RX6) (T := TX6) (N := 18) (ci := 6) B hK hin_X6_lead_RX6 0 rfl rfl 4 (by decide) (List.mem_of_getElem? (i := 2) rfl) rfl (v := .ref m4) rfl dX6_lead_52 ?_
      refine g_iconst (v := (2 : Int32)) B dX6_lead_55 (by decide) ?_
      refine g_iload_n B dX6_lead_56 1 rfl ?_
      refine g_imul (v := nI (2 * a1)) B dX6_lead_57 (pk_mul 2 a1) ?_
      refine g_iconst (v := (1 : Int32)) B dX6_lead_58 (by decide) ?_
      refine g_iadd (v := nI ((2 * a1) + 1)) B dX6_lead_59 (nI_add (2 * a1) 1) ?_
      refine g_iload_n B dX6_lead_60 3 rfl ?_
      refine g_iast B hK 1 0 rfl rfl ((2 * a1) + 1) rfl (by omega) (by omega) (f2 := (upd (upd (fun _ => (-1 : Int32)) (2 * a1) a2) ((2 * a1) + 1) a3)) (rfl) (w2 := [(hm, .inr (6, [.int (0 : Int32), .ref m1, .ref m2, .ref m3, .ref m4, .ref m5, .int dr, .ref m7, .int (0 : Int32), .ref m9, .ref m10, .ref m11, .ref m12, .ref m13, .int rl, .ref m15, .ref m16, .ref m17])), (m4, .inl (cI, 24, .inl (upd (upd (fun _ => (-1 : Int32)) (2 * a1) a2) ((2 * a1) + 1) a3)))]) rfl (fun _ h => h) dX6_lead_61 ?_
      refine g_aload_n B dX6_lead_62 0 rfl ?_
      refine g_callP (g_runV (q0 := 0) (ci := 6) B hK rfl rfl (PM.met (r_changed_0 l (D := D) (cI := cI) (cL := cL) (cZ := cZ) hm m1 m2 m3 m4 m5 m7 m9 m10 m11 m12 m13 m15 m16 m17 (0 : Int32) dr rl )) (gPp.pre (av := [.ref hm]) (wc := [(hm, .inr (6, [.int (0 : Int32), .ref m1, .ref m2, .ref m3, .ref m4, .ref m5, .int dr, .ref m7, .int (0 : Int32), .ref m9, .ref m10, .ref m11, .ref m12, .ref m13, .int rl, .ref m15, .ref m16, .ref m17]))]) hK hN [0] rfl (by decide)) gX6_lead_X6_changed rfl rfl kd_X6_changed ⟨by decide, by decide⟩ (st := []) rfl (Nat.le_of_ble_eq_true rfl) dX6_lead_63 ⟨by decide, by decide⟩) (fun u hu => ?_)
      exact g_iret_w B hr rfl hlocks () (rfl) (trivial) [0] (by decide) rfl dX6_lead_66
  · refine g_iload_n B dX6_lead_17 2 rfl ?_
    refine g_callP (g_runS B (PM.met (r_isNode_t l (D := D) (cI := cI) (cL := cL) (cZ := cZ) a2 (by first | assumption | exact hy (by assumption) | exact hz (by assumption)))) (gPp.pre (av := [.int a2]) (wc := []) hK hN [] rfl (by decide)) gX6_lead_X6_isNode rfl kd_X6_isNode ⟨by decide, by decide⟩ (st := []) rfl (Nat.le_of_ble_eq_true rfl) dX6_lead_18 ⟨by decide, by decide⟩) (fun u hu => ?_)
    refine g_if_eq (tgt := 36) B dX6_lead_21 (by decide) (fun c10 => absurd c10 (by decide)) (fun _ => ?_)
    refine g_iload_n B dX6_lead_24 3 rfl ?_
    refine g_iconst (v := (-1 : Int32)) B dX6_lead_25 (by decide) ?_
    refine g_icmp_eq (tgt := 42) B dX6_lead_26 (by decide) (fun c11 => ?_) (fun c11 => ?_)
    · refine g_aload_n B dX6_lead_42 0 rfl ?_
      refine g_get (C := RX6) (T := TX6) (N := 18) (ci := 6) B hK hin_X6_lead_RX6 0 rfl rfl 4 (by decide) (List.mem_of_getElem? (i := 2) rfl) rfl (v := .ref m4) rfl dX6_lead_43 ?_
      refine g_iconst (v := (2 : Int32)) B dX6_lead_46 (by decide) ?_
      refine g_iload_n B dX6_lead_47 1 rfl ?_
      refine g_imul (v := nI (2 * a1)) B dX6_lead_48 (pk_mul 2 a1) ?_
      refine g_iload_n B dX6_lead_49 2 rfl ?_
      refine g_iast B hK 1 0 rfl rfl (2 * a1) rfl (by omega) (by omega) (f2 := (upd (fun _ => (-1 : Int32)) (2 * a1) a2)) (rfl) (w2 := [(hm, .inr (6, [.int (0 : Int32), .ref m1, .ref m2, .ref m3, .ref m4, .ref m5, .int dr, .ref m7, .int (0 : Int32), .ref m9, .ref m10, .ref m11, .ref m12, .ref m13, .int rl, .ref m15, .ref m16, .ref m17])), (m4, .inl (cI, 24, .inl (upd (fun _ => (-1 : Int32)) (2 * a1) a2)))]) rfl (fun _ h => h) dX6_lead_50 ?_
      refine g_aload_n B dX6_lead_51 0 rfl ?_
      refine g_get (C := RX6) (T := TX6) (N := 18) (ci := 6) B hK hin_X6_lead_RX6 0 rfl rfl 4 (by decide) (List.mem_of_getElem? (i := 2) rfl) rfl (v := .ref m4) rfl dX6_lead_52 ?_
      refine g_iconst (v := (2 : Int32)) B dX6_lead_55 (by decide) ?_
      refine g_iload_n B dX6_lead_56 1 rfl ?_
      refine g_imul (v := nI (2 * a1)) B dX6_lead_57 (pk_mul 2 a1) ?_
      refine g_iconst (v := (1 : Int32)) B dX6_lead_58 (by decide) ?_
      refine g_iadd (v := nI ((2 * a1) + 1)) B dX6_lead_59 (nI_add (2 * a1) 1) ?_
      refine g_iload_n B dX6_lead_60 3 rfl ?_
      refine g_iast B hK 1 0 rfl rfl ((2 * a1) + 1) rfl (by omega) (by omega) (f2 := (upd (upd (fun _ => (-1 : Int32)) (2 * a1) a2) ((2 * a1) + 1) a3)) (rfl) (w2 := [(hm, .inr (6, [.int (0 : Int32), .ref m1, .ref m2, .ref m3, .ref m4, .ref m5, .int dr, .ref m7, .int (0 : Int32), .ref m9, .ref m10, .ref m11, .ref m12, .ref m13, .int rl, .ref m15, .ref m16, .ref m17])), (m4, .inl (cI, 24, .inl (upd (upd (fun _ => (-1 : Int32)) (2 * a1) a2) ((2 * a1) + 1) a3)))]) rfl (fun _ h => h) dX6_lead_61 ?_
      refine g_aload_n B dX6_lead_62 0 rfl ?_
      refine g_callP (g_runV (q0 := 0) (ci := 6) B hK rfl rfl (PM.met (r_changed_0 l (D := D) (cI := cI) (cL := cL) (cZ := cZ) hm m1 m2 m3 m4 m5 m7 m9 m10 m11 m12 m13 m15 m16 m17 (0 : Int32) dr rl )) (gPp.pre (av := [.ref hm]) (wc := [(hm, .inr (6, [.int (0 : Int32), .ref m1, .ref m2, .ref m3, .ref m4, .ref m5, .int dr, .ref m7, .int (0 : Int32), .ref m9, .ref m10, .ref m11, .ref m12, .ref m13, .int rl, .ref m15, .ref m16, .ref m17]))]) hK hN [0] rfl (by decide)) gX6_lead_X6_changed rfl rfl kd_X6_changed ⟨by decide, by decide⟩ (st := []) rfl (Nat.le_of_ble_eq_true rfl) dX6_lead_63 ⟨by decide, by decide⟩) (fun u hu => ?_)
      exact g_iret_w B hr rfl hlocks () (rfl) (trivial) [0] (by decide) rfl dX6_lead_66
    · refine g_iload_n B dX6_lead_29 3 rfl ?_
      refine g_callP (g_runS B (PM.met (r_isNode_t l (D := D) (cI := cI) (cL := cL) (cZ := cZ) a3 (by first | assumption | exact hy (by assumption) | exact hz (by assumption)))) (gPp.pre (av := [.int a3]) (wc := []) hK hN [] rfl (by decide)) gX6_lead_X6_isNode rfl kd_X6_isNode ⟨by decide, by decide⟩ (st := []) rfl (Nat.le_of_ble_eq_true rfl) dX6_lead_30 ⟨by decide, by decide⟩) (fun u hu => ?_)
      refine g_if_ne (tgt := 42) B dX6_lead_33 (by decide) (fun _ => ?_) (fun c14 => absurd c14 (by decide))
      refine g_aload_n B dX6_lead_42 0 rfl ?_
      refine g_get (C := RX6) (T := TX6) (N := 18) (ci := 6) B hK hin_X6_lead_RX6 0 rfl rfl 4 (by decide) (List.mem_of_getElem? (i := 2) rfl) rfl (v := .ref m4) rfl dX6_lead_43 ?_
      refine g_iconst (v := (2 : Int32)) B dX6_lead_46 (by decide) ?_
      refine g_iload_n B dX6_lead_47 1 rfl ?_
      refine g_imul (v := nI (2 * a1)) B dX6_lead_48 (pk_mul 2 a1) ?_
      refine g_iload_n B dX6_lead_49 2 rfl ?_
      refine g_iast B hK 1 0 rfl rfl (2 * a1) rfl (by omega) (by omega) (f2 := (upd (fun _ => (-1 : Int32)) (2 * a1) a2)) (rfl) (w2 := [(hm, .inr (6, [.int (0 : Int32), .ref m1, .ref m2, .ref m3, .ref m4, .ref m5, .int dr, .ref m7, .int (0 : Int32), .ref m9, .ref m10, .ref m11, .ref m12, .ref m13, .int rl, .ref m15, .ref m16, .ref m17])), (m4, .inl (cI, 24, .inl (upd (fun _ => (-1 : Int32)) (2 * a1) a2)))]) rfl (fun _ h => h) dX6_lead_50 ?_
      refine g_aload_n B dX6_lead_51 0 rfl ?_
      refine g_get (C := RX6) (T := TX6) (N := 18) (ci := 6) B hK hin_X6_lead_RX6 0 rfl rfl 4 (by decide) (List.mem_of_getElem? (i := 2) rfl) rfl (v := .ref m4) rfl dX6_lead_52 ?_
      refine g_iconst (v := (2 : Int32)) B dX6_lead_55 (by decide) ?_
      refine g_iload_n B dX6_lead_56 1 rfl ?_
      refine g_imul (v := nI (2 * a1)) B dX6_lead_57 (pk_mul 2 a1) ?_
      refine g_iconst (v := (1 : Int32)) B dX6_lead_58 (by decide) ?_
      refine g_iadd (v := nI ((2 * a1) + 1)) B dX6_lead_59 (nI_add (2 * a1) 1) ?_
      refine g_iload_n B dX6_lead_60 3 rfl ?_
      refine g_iast B hK 1 0 rfl rfl ((2 * a1) + 1) rfl (by omega) (by omega) (f2 := (upd (upd (fun _ => (-1 : Int32)) (2 * a1) a2) ((2 * a1) + 1) a3)) (rfl) (w2 := [(hm, .inr (6, [.int (0 : Int32), .ref m1, .ref m2, .ref m3, .ref m4, .ref m5, .int dr, .ref m7, .int (0 : Int32), .ref m9, .ref m10, .ref m11, .ref m12, .ref m13, .int rl, .ref m15, .ref m16, .ref m17])), (m4, .inl (cI, 24, .inl (upd (upd (fun _ => (-1 : Int32)) (2 * a1) a2) ((2 * a1) + 1) a3)))]) rfl (fun _ h => h) dX6_lead_61 ?_
      refine g_aload_n B dX6_lead_62 0 rfl ?_
      refine g_callP (g_runV (q0 := 0) (ci := 6) B hK rfl rfl (PM.met (r_changed_0 l (D := D) (cI := cI) (cL := cL) (cZ := cZ) hm m1 m2 m3 m4 m5 m7 m9 m10 m11 m12 m13 m15 m16 m17 (0 : Int32) dr rl )) (gPp.pre (av := [.ref hm]) (wc := [(hm, .inr (6, [.int (0 : Int32), .ref m1, .ref m2, .ref m3, .ref m4, .ref m5, .int dr, .ref m7, .int (0 : Int32), .ref m9, .ref m10, .ref m11, .ref m12, .ref m13, .int rl, .ref m15, .ref m16, .ref m17]))]) hK hN [0] rfl (by decide)) gX6_lead_X6_changed rfl rfl kd_X6_changed ⟨by decide, by decide⟩ (st := []) rfl (Nat.le_of_ble_eq_true rfl) dX6_lead_63 ⟨by decide, by decide⟩) (fun u hu => ?_)
      exact g_iret_w B hr rfl hlocks () (rfl) (trivial) [0] (by decide) rfl dX6_lead_66

set_option maxHeartbeats 4000000 in
set_option maxRecDepth 100000 in
theorem r_bad_x0 (l : Launch) {D : va_G} {cI cL cZ : ClassId} (hm : Nat) (m1 : Nat) (m2 : Nat) (m3 : Nat) (m4 : Nat) (m5 : Nat) (m7 : Nat) (m9 : Nat) (m10 : Nat) (m11 : Nat) (m12 : Nat) (m13 : Nat) (m15 : Nat) (m16 : Nat) (m17 : Nat) (th : Int32) (dr : Int32) (rl : Int32) (a1 : Int32) (a2 : Int32) (h1 : inR a1 0 11 = false) : WM l yX6_bad wsX6_bad ({ frames := 2, cells := 0, slots := 0, locals := 42 } : Room) D (gTys cI cL cZ) [.ref hm, .int a1, .int a2] [(hm, .inr (6, [.int th, .ref m1, .ref m2, .ref m3, .ref m4, .ref m5, .int dr, .ref m7, .int (0 : Int32), .ref m9, .ref m10, .ref m11, .ref m12, .ref m13, .int rl, .ref m15, .ref m16, .ref m17]))] (fun (_ : Unit) => True) (fun (_ : Unit) => some (.int (0 : Int32))) (fun (_ : Unit) => [(hm, .inr (6, [.int (1 : Int32), .ref m1, .ref m2, .ref m3, .ref m4, .ref m5, .int dr, .ref m7, .int (0 : Int32), .ref m9, .ref m10, .ref m11, .ref m12, .ref m13, .int rl, .ref m15, .ref m16, .ref m17]))]) := by
  refine WM.ofG cX6_bad 3 (some .int) (by decide +kernel) rfl (Nat.le_of_ble_eq_true rfl) ?_
  intro p e s m below meth c A hA B hr hlocks hname hK hN
  refine g_aload_n B dX6_bad_0 0 rfl ?_
  refine g_iconst (v := (0 : Int32)) B dX6_bad_1 (by decide) ?_
  refine g_put (C := RX6) (T := TX6) (N := 18) (ci := 6) B hK hin_X6_bad_RX6 0 rfl rfl 0 (by decide) tyX6 tyX6_ok nmX6 (List.mem_of_getElem? (i := 1) rfl) rfl rfl (ty := .int) (v := .int (0 : Int32)) (by decide +kernel) rfl rfl (Nat.le_of_ble_eq_true rfl) (w2 := [(hm, .inr (6, [.int (0 : Int32), .ref m1, .ref m2, .ref m3, .ref m4, .ref m5, .int dr, .ref m7, .int (0 : Int32), .ref m9, .ref m10, .ref m11, .ref m12, .ref m13, .int rl, .ref m15, .ref m16, .ref m17]))]) rfl (fun _ h => h) dX6_bad_2 ?_
  refine g_iload_n B dX6_bad_5 1 rfl ?_
  refine g_callP (g_runS B (PM.met (r_isNode_f l (D := D) (cI := cI) (cL := cL) (cZ := cZ) a1 (by first | assumption | exact hy (by assumption) | exact hz (by assumption)))) (gPp.pre (av := [.int a1]) (wc := []) hK hN [] rfl (by decide)) gX6_bad_X6_isNode rfl kd_X6_isNode ⟨by decide, by decide⟩ (st := []) rfl (Nat.le_of_ble_eq_true rfl) dX6_bad_6 ⟨by decide, by decide⟩) (fun u hu => ?_)
  refine g_if_ne (tgt := 18) B dX6_bad_9 (by decide) (fun c2 => absurd (by decide) c2) (fun _ => ?_)
  refine g_aload_n B dX6_bad_12 0 rfl ?_
  refine g_iconst (v := (1 : Int32)) B dX6_bad_13 (by decide) ?_
  refine g_callW (w2 := (fun (_ : Unit) => [(hm, .inr (6, [.int (1 : Int32), .ref m1, .ref m2, .ref m3, .ref m4, .ref m5, .int dr, .ref m7, .int (0 : Int32), .ref m9, .ref m10, .ref m11, .ref m12, .ref m13, .int rl, .ref m15, .ref m16, .ref m17]))])) (g_runV (q0 := 0) (ci := 6) B hK rfl rfl (r_no l (D := D) (cI := cI) (cL := cL) (cZ := cZ) hm m1 m2 m3 m4 m5 m7 m9 m10 m11 m12 m13 m15 m16 m17 (0 : Int32) dr (0 : Int32) rl (1 : Int32) ) (gPw.pre (av := [.ref hm, .int (1 : Int32)]) (wc := [(hm, .inr (6, [.int (0 : Int32), .ref m1, .ref m2, .ref m3, .ref m4, .ref m5, .int dr, .ref m7, .int (0 : Int32), .ref m9, .ref m10, .ref m11, .ref m12, .ref m13, .int rl, .ref m15, .ref m16, .ref m17]))]) hK hN [0] rfl (by decide)) gX6_bad_X6_no rfl rfl kd_X6_no ⟨by decide, by decide⟩ (st := []) rfl (Nat.le_of_ble_eq_true rfl) dX6_bad_14 ⟨by decide, by decide⟩) hA (fun _ h => h) [0] [] (wr := []) rfl rfl (by decide) (by decide) [0] (by decide) (fun _ => rfl) (fun u hu => ?_)
  exact g_iret_w B hr rfl hlocks () (rfl) (trivial) [0] (by decide) rfl dX6_bad_17

set_option maxHeartbeats 4000000 in
set_option maxRecDepth 100000 in
theorem r_bad_v (l : Launch) {D : va_G} {cI cL cZ : ClassId} (hm : Nat) (m1 : Nat) (m2 : Nat) (m3 : Nat) (m4 : Nat) (m5 : Nat) (m7 : Nat) (m9 : Nat) (m10 : Nat) (m11 : Nat) (m12 : Nat) (m13 : Nat) (m15 : Nat) (m16 : Nat) (m17 : Nat) (th : Int32) (dr : Int32) (rl : Int32) (a1 : Nat) (a2 : Int32) (h1 : a1 < 12) : WM l yX6_bad wsX6_bad ({ frames := 2, cells := 0, slots := 0, locals := 43 } : Room) D (gTys cI cL cZ) [.ref hm, .int (nI a1), .int a2] [(hm, .inr (6, [.int th, .ref m1, .ref m2, .ref m3, .ref m4, .ref m5, .int dr, .ref m7, .int (0 : Int32), .ref m9, .ref m10, .ref m11, .ref m12, .ref m13, .int rl, .ref m15, .ref m16, .ref m17])), (m5, .inl (cZ, 12, .inl (fun _ => (0 : Int32))))] (fun (_ : Unit) => True) (fun (_ : Unit) => some (.int (0 : Int32))) (fun (_ : Unit) => [(hm, .inr (6, [.int (0 : Int32), .ref m1, .ref m2, .ref m3, .ref m4, .ref m5, .int dr, .ref m7, .int (0 : Int32), .ref m9, .ref m10, .ref m11, .ref m12, .ref m13, .int rl, .ref m15, .ref m16, .ref m17]))]) := by
  refine WM.ofG cX6_bad 3 (some .int) (by decide +kernel) rfl (Nat.le_of_ble_eq_true rfl) ?_
  intro p e s m below meth c A hA B hr hlocks hname hK hN
  refine g_aload_n B dX6_bad_0 0 rfl ?_
  refine g_iconst (v := (0 : Int32)) B dX6_bad_1 (by decide) ?_
  refine g_put (C := RX6) (T := TX6) (N := 18) (ci := 6) B hK hin_X6_bad_RX6 0 rfl rfl 0 (by decide) tyX6 tyX6_ok nmX6 (List.mem_of_getElem? (i := 1) rfl) rfl rfl (ty := .int) (v := .int (0 : Int32)) (by decide +kernel) rfl rfl (Nat.le_of_ble_eq_true rfl) (w2 := [(hm, .inr (6, [.int (0 : Int32), .ref m1, .ref m2, .ref m3, .ref m4, .ref m5, .int dr, .ref m7, .int (0 : Int32), .ref m9, .ref m10, .ref m11, .ref m12, .ref m13, .int rl, .ref m15, .ref m16, .ref m17])), (m5, .inl (cZ, 12, .inl (fun _ => (0 : Int32))))]) rfl (fun _ h => h) dX6_bad_2 ?_
  refine g_iload_n B dX6_bad_5 1 rfl ?_
  refine g_callP (g_runS B (PM.met (r_isNode_n l (D := D) (cI := cI) (cL := cL) (cZ := cZ) a1 (by omega))) (gPp.pre (av := [.int (nI a1)]) (wc := []) hK hN [] rfl (by decide)) gX6_bad_X6_isNode rfl kd_X6_isNode ⟨by decide, by decide⟩ (st := []) rfl (Nat.le_of_ble_eq_true rfl) dX6_bad_6 ⟨by decide, by decide⟩) (fun u hu => ?_)
  refine g_if_ne (tgt := 18) B dX6_bad_9 (by decide) (fun _ => ?_) (fun c2 => absurd c2 (by decide))
  refine g_aload_n B dX6_bad_18 0 rfl ?_
  refine g_get (C := RX6) (T := TX6) (N := 18) (ci := 6) B hK hin_X6_bad_RX6 0 rfl rfl 5 (by decide) (List.mem_of_getElem? (i := 2) rfl) rfl (v := .ref m5) rfl dX6_bad_19 ?_
  refine g_iload_n B dX6_bad_22 1 rfl ?_
  refine g_iload_n B dX6_bad_23 2 rfl ?_
  refine g_zast B hK 1 2 rfl rfl a1 rfl (by omega) (by omega) (f2 := (upd (fun _ => (0 : Int32)) a1 (vp_nar .boolean a2))) (rfl) (w2 := [(hm, .inr (6, [.int (0 : Int32), .ref m1, .ref m2, .ref m3, .ref m4, .ref m5, .int dr, .ref m7, .int (0 : Int32), .ref m9, .ref m10, .ref m11, .ref m12, .ref m13, .int rl, .ref m15, .ref m16, .ref m17])), (m5, .inl (cZ, 12, .inl (upd (fun _ => (0 : Int32)) a1 (vp_nar .boolean a2))))]) rfl (fun _ h => h) dX6_bad_24 ?_
  refine g_aload_n B dX6_bad_25 0 rfl ?_
  refine g_callP (g_runV (q0 := 0) (ci := 6) B hK rfl rfl (PM.met (r_changed_0 l (D := D) (cI := cI) (cL := cL) (cZ := cZ) hm m1 m2 m3 m4 m5 m7 m9 m10 m11 m12 m13 m15 m16 m17 (0 : Int32) dr rl )) (gPp.pre (av := [.ref hm]) (wc := [(hm, .inr (6, [.int (0 : Int32), .ref m1, .ref m2, .ref m3, .ref m4, .ref m5, .int dr, .ref m7, .int (0 : Int32), .ref m9, .ref m10, .ref m11, .ref m12, .ref m13, .int rl, .ref m15, .ref m16, .ref m17]))]) hK hN [0] rfl (by decide)) gX6_bad_X6_changed rfl rfl kd_X6_changed ⟨by decide, by decide⟩ (st := []) rfl (Nat.le_of_ble_eq_true rfl) dX6_bad_26 ⟨by decide, by decide⟩) (fun u hu => ?_)
  exact g_iret_w B hr rfl hlocks () (rfl) (trivial) [0] (by decide) rfl dX6_bad_29

set_option maxHeartbeats 4000000 in
set_option maxRecDepth 100000 in
theorem r_run_x0 (l : Launch) {D : va_G} {cI cL cZ : ClassId} (hm : Nat) (m1 : Nat) (m2 : Nat) (m3 : Nat) (m4 : Nat) (m5 : Nat) (m7 : Nat) (m9 : Nat) (m10 : Nat) (m11 : Nat) (m12 : Nat) (m13 : Nat) (m15 : Nat) (m16 : Nat) (m17 : Nat) (th : Int32) (dr : Int32) (rl : Int32) (a1 : Int32) (h1 : inR a1 0 9999 = false) : WM l yX6_run wsX6_run ({ frames := 2, cells := 0, slots := 0, locals := 42 } : Room) D (gTys cI cL cZ) [.ref hm, .int a1] [(hm, .inr (6, [.int th, .ref m1, .ref m2, .ref m3, .ref m4, .ref m5, .int dr, .ref m7, .int (0 : Int32), .ref m9, .ref m10, .ref m11, .ref m12, .ref m13, .int rl, .ref m15, .ref m16, .ref m17]))] (fun (_ : Unit) => True) (fun (_ : Unit) => some (.int (0 : Int32))) (fun (_ : Unit) => [(hm, .inr (6, [.int (1 : Int32), .ref m1, .ref m2, .ref m3, .ref m4, .ref m5, .int dr, .ref m7, .int (0 : Int32), .ref m9, .ref m10, .ref m11, .ref m12, .ref m13, .int rl, .ref m15, .ref m16, .ref m17]))]) := by
  refine WM.ofG cX6_run 2 (some .int) (by decide +kernel) rfl (Nat.le_of_ble_eq_true rfl) ?_
  intro p e s m below meth c A hA B hr hlocks hname hK hN
  refine g_aload_n B dX6_run_0 0 rfl ?_
  refine g_iconst (v := (0 : Int32)) B dX6_run_1 (by decide) ?_
  refine g_put (C := RX6) (T := TX6) (N := 18) (ci := 6) B hK hin_X6_run_RX6 0 rfl rfl 0 (by decide) tyX6 tyX6_ok nmX6 (List.mem_of_getElem? (i := 1) rfl) rfl rfl (ty := .int) (v := .int (0 : Int32)) (by decide +kernel) rfl rfl (Nat.le_of_ble_eq_true rfl) (w2 := [(hm, .inr (6, [.int (0 : Int32), .ref m1, .ref m2, .ref m3, .ref m4, .ref m5, .int dr, .ref m7, .int (0 : Int32), .ref m9, .ref m10, .ref m11, .ref m12, .ref m13, .int rl, .ref m15, .ref m16, .ref m17]))]) rfl (fun _ h => h) dX6_run_2 ?_
  refine g_iload_n B dX6_run_5 1 rfl ?_
  refine g_callP (g_runS B (PM.met (r_isCase_f l (D := D) (cI := cI) (cL := cL) (cZ := cZ) a1 (by first | assumption | exact hy (by assumption) | exact hz (by assumption)))) (gPp.pre (av := [.int a1]) (wc := []) hK hN [] rfl (by decide)) gX6_run_X6_isCase rfl kd_X6_isCase ⟨by decide, by decide⟩ (st := []) rfl (Nat.le_of_ble_eq_true rfl) dX6_run_6 ⟨by decide, by decide⟩) (fun u hu => ?_)
  refine g_if_eq (tgt := 20) B dX6_run_9 (by decide) (fun _ => ?_) (fun c2 => absurd (by decide) c2)
  refine g_aload_n B dX6_run_20 0 rfl ?_
  refine g_iconst (v := (1 : Int32)) B dX6_run_21 (by decide) ?_
  refine g_callW (w2 := (fun (_ : Unit) => [(hm, .inr (6, [.int (1 : Int32), .ref m1, .ref m2, .ref m3, .ref m4, .ref m5, .int dr, .ref m7, .int (0 : Int32), .ref m9, .ref m10, .ref m11, .ref m12, .ref m13, .int rl, .ref m15, .ref m16, .ref m17]))])) (g_runV (q0 := 0) (ci := 6) B hK rfl rfl (r_no l (D := D) (cI := cI) (cL := cL) (cZ := cZ) hm m1 m2 m3 m4 m5 m7 m9 m10 m11 m12 m13 m15 m16 m17 (0 : Int32) dr (0 : Int32) rl (1 : Int32) ) (gPw.pre (av := [.ref hm, .int (1 : Int32)]) (wc := [(hm, .inr (6, [.int (0 : Int32), .ref m1, .ref m2, .ref m3, .ref m4, .ref m5, .int dr, .ref m7, .int (0 : Int32), .ref m9, .ref m10, .ref m11, .ref m12, .ref m13, .int rl, .ref m15, .ref m16, .ref m17]))]) hK hN [0] rfl (by decide)) gX6_run_X6_no rfl rfl kd_X6_no ⟨by decide, by decide⟩ (st := []) rfl (Nat.le_of_ble_eq_true rfl) dX6_run_22 ⟨by decide, by decide⟩) hA (fun _ h => h) [0] [] (wr := []) rfl rfl (by decide) (by decide) [0] (by decide) (fun _ => rfl) (fun u hu => ?_)
  exact g_iret_w B hr rfl hlocks () (rfl) (trivial) [0] (by decide) rfl dX6_run_25

set_option maxHeartbeats 4000000 in
set_option maxRecDepth 100000 in
theorem r_run_v (l : Launch) {D : va_G} {cI cL cZ : ClassId} (hm : Nat) (m1 : Nat) (m2 : Nat) (m3 : Nat) (m4 : Nat) (m5 : Nat) (m7 : Nat) (m9 : Nat) (m10 : Nat) (m11 : Nat) (m12 : Nat) (m13 : Nat) (m15 : Nat) (m16 : Nat) (m17 : Nat) (th : Int32) (dr : Int32) (rl : Int32) (a1 : Nat) (h1 : a1 < 10000) : WM l yX6_run wsX6_run ({ frames := 5, cells := 2, slots := 33, locals := 112 } : Room) D (gTys cI cL cZ) [.ref hm, .int (nI a1)] [(hm, .inr (6, [.int th, .ref m1, .ref m2, .ref m3, .ref m4, .ref m5, .int dr, .ref m7, .int (0 : Int32), .ref m9, .ref m10, .ref m11, .ref m12, .ref m13, .int rl, .ref m15, .ref m16, .ref m17])), (m1, .inl (cI, 12, .inl (fun _ => (0 : Int32)))), (m2, .inl (cI, 12, .inl (fun _ => (0 : Int32)))), (m3, .inl (cI, 12, .inl (fun _ => (0 : Int32)))), (m4, .inl (cI, 24, .inl (fun _ => (-1 : Int32)))), (m5, .inl (cZ, 12, .inl (fun _ => (0 : Int32))))] (fun (_ : Unit) => True) (fun (_ : Unit) => some (.int (1 : Int32))) (fun (_ : Unit) => [(hm, .inr (6, [.int (0 : Int32), .ref m1, .ref m2, .ref m3, .ref m4, .ref m5, .int dr, .ref m7, .int (0 : Int32), .ref m9, .ref m10, .ref m11, .ref m12, .ref m13, .int rl, .ref m15, .ref m16, .ref m17]))]) := by
  refine WM.ofG cX6_run 2 (some .int) (by decide +kernel) rfl (Nat.le_of_ble_eq_true rfl) ?_
  intro p e s m below meth c A hA B hr hlocks hname hK hN
  refine g_aload_n B dX6_run_0 0 rfl ?_
  refine g_iconst (v := (0 : Int32)) B dX6_run_1 (by decide) ?_
  refine g_put (C := RX6) (T := TX6) (N := 18) (ci := 6) B hK hin_X6_run_RX6 0 rfl rfl 0 (by decide) tyX6 tyX6_ok nmX6 (List.mem_of_getElem? (i := 1) rfl) rfl rfl (ty := .int) (v := .int (0 : Int32)) (by decide +kernel) rfl rfl (Nat.le_of_ble_eq_true rfl) (w2 := [(hm, .inr (6, [.int (0 : Int32), .ref m1, .ref m2, .ref m3, .ref m4, .ref m5, .int dr, .ref m7, .int (0 : Int32), .ref m9, .ref m10, .ref m11, .ref m12, .ref m13, .int rl, .ref m15, .ref m16, .ref m17])), (m1, .inl (cI, 12, .inl (fun _ => (0 : Int32)))), (m2, .inl (cI, 12, .inl (fun _ => (0 : Int32)))), (m3, .inl (cI, 12, .inl (fun _ => (0 : Int32)))), (m4, .inl (cI, 24, .inl (fun _ => (-1 : Int32)))), (m5, .inl (cZ, 12, .inl (fun _ => (0 : Int32))))]) rfl (fun _ h => h) dX6_run_2 ?_
  refine g_iload_n B dX6_run_5 1 rfl ?_
  refine g_callP (g_runS B (PM.met (r_isCase_n l (D := D) (cI := cI) (cL := cL) (cZ := cZ) a1 (by omega))) (gPp.pre (av := [.int (nI a1)]) (wc := []) hK hN [] rfl (by decide)) gX6_run_X6_isCase rfl kd_X6_isCase ⟨by decide, by decide⟩ (st := []) rfl (Nat.le_of_ble_eq_true rfl) dX6_run_6 ⟨by decide, by decide⟩) (fun u hu => ?_)
  refine g_if_eq (tgt := 20) B dX6_run_9 (by decide) (fun c2 => absurd c2 (by decide)) (fun _ => ?_)
  refine g_aload_n B dX6_run_12 0 rfl ?_
  refine g_iload_n B dX6_run_13 1 rfl ?_
  refine g_callW (w2 := (fun (_ : Unit) => [(hm, .inr (6, [.int (0 : Int32), .ref m1, .ref m2, .ref m3, .ref m4, .ref m5, .int dr, .ref m7, .int (0 : Int32), .ref m9, .ref m10, .ref m11, .ref m12, .ref m13, .int rl, .ref m15, .ref m16, .ref m17])), (m1, .inl (cI, 12, .inl (fun _ => (0 : Int32)))), (m2, .inl (cI, 12, .inl (fun _ => (0 : Int32)))), (m3, .inl (cI, 12, .inl (fun _ => (0 : Int32)))), (m4, .inl (cI, 24, .inl (fun _ => (-1 : Int32)))), (m5, .inl (cZ, 12, .inl (fun _ => (0 : Int32))))])) (g_runV (q0 := 0) (ci := 6) B hK rfl rfl (r_resultOf l (D := D) (cI := cI) (cL := cL) (cZ := cZ) hm m1 m2 m3 m4 m5 m7 m9 m10 m11 m12 m13 m15 m16 m17 (0 : Int32) dr (0 : Int32) rl a1 (by omega)) (gPw.pre (av := [.ref hm, .int (nI a1)]) (wc := [(hm, .inr (6, [.int (0 : Int32), .ref m1, .ref m2, .ref m3, .ref m4, .ref m5, .int dr, .ref m7, .int (0 : Int32), .ref m9, .ref m10, .ref m11, .ref m12, .ref m13, .int rl, .ref m15, .ref m16, .ref m17])), (m1, .inl (cI, 12, .inl (fun _ => (0 : Int32)))), (m2, .inl (cI, 12, .inl (fun _ => (0 : Int32)))), (m3, .inl (cI, 12, .inl (fun _ => (0 : Int32)))), (m4, .inl (cI, 24, .inl (fun _ => (-1 : Int32)))), (m5, .inl (cZ, 12, .inl (fun _ => (0 : Int32))))]) hK hN [0, 1, 2, 3, 4, 5] rfl (by decide)) gX6_run_X6_resultOf rfl rfl kd_X6_resultOf ⟨by decide, by decide⟩ (st := []) rfl (Nat.le_of_ble_eq_true rfl) dX6_run_14 ⟨by decide, by decide⟩) hA (fun _ h => h) [0, 1, 2, 3, 4, 5] [] (wr := []) rfl rfl (by decide) (by decide) [0, 1, 2, 3, 4, 5] (by decide) (fun _ => rfl) (fun u hu => ?_)
  refine g_goto (tgt := 25) B dX6_run_17 (by decide) ?_
  refine g_widen (k := 2) (n := 33) (by (try dsimp only); omega) (by (try dsimp only); omega) ?_
  exact g_iret_w B hr rfl hlocks () (rfl) (trivial) [0] (by decide) rfl dX6_run_25

set_option maxHeartbeats 4000000 in
set_option maxRecDepth 100000 in
theorem r_edge_x0 (l : Launch) {D : va_G} {cI cL cZ : ClassId} (hm : Nat) (m1 : Nat) (m2 : Nat) (m3 : Nat) (m4 : Nat) (m5 : Nat) (m7 : Nat) (m9 : Nat) (m10 : Nat) (m11 : Nat) (m12 : Nat) (m13 : Nat) (m15 : Nat) (m16 : Nat) (m17 : Nat) (th : Int32) (dr : Int32) (rl : Int32) (a1 : Int32) (a2 : Int32) (h1 : inR a1 0 9999 = false) : WM l yX6_edge wsX6_edge ({ frames := 2, cells := 0, slots := 0, locals := 42 } : Room) D (gTys cI cL cZ) [.ref hm, .int a1, .int a2] [(hm, .inr (6, [.int th, .ref m1, .ref m2, .ref m3, .ref m4, .ref m5, .int dr, .ref m7, .int (0 : Int32), .ref m9, .ref m10, .ref m11, .ref m12, .ref m13, .int rl, .ref m15, .ref m16, .ref m17]))] (fun (_ : Unit) => True) (fun (_ : Unit) => some (.int (0 : Int32))) (fun (_ : Unit) => [(hm, .inr (6, [.int (1 : Int32), .ref m1, .ref m2, .ref m3, .ref m4, .ref m5, .int dr, .ref m7, .int (0 : Int32), .ref m9, .ref m10, .ref m11, .ref m12, .ref m13, .int rl, .ref m15, .ref m16, .ref m17]))]) := by
  refine WM.ofG cX6_edge 4 (some .int) (by decide +kernel) rfl (Nat.le_of_ble_eq_true rfl) ?_
  intro p e s m below meth c A hA B hr hlocks hname hK hN
  refine g_aload_n B dX6_edge_0 0 rfl ?_
  refine g_iconst (v := (0 : Int32)) B dX6_edge_1 (by decide) ?_
  refine g_put (C := RX6) (T := TX6) (N := 18) (ci := 6) B hK hin_X6_edge_RX6 0 rfl rfl 0 (by decide) tyX6 tyX6_ok nmX6 (List.mem_of_getElem? (i := 1) rfl) rfl rfl (ty := .int) (v := .int (0 : Int32)) (by decide +kernel) rfl rfl (Nat.le_of_ble_eq_true rfl) (w2 := [(hm, .inr (6, [.int (0 : Int32), .ref m1, .ref m2, .ref m3, .ref m4, .ref m5, .int dr, .ref m7, .int (0 : Int32), .ref m9, .ref m10, .ref m11, .ref m12, .ref m13, .int rl, .ref m15, .ref m16, .ref m17]))]) rfl (fun _ h => h) dX6_edge_2 ?_
  refine g_iload_n B dX6_edge_5 1 rfl ?_
  refine g_callP (g_runS B (PM.met (r_isCase_f l (D := D) (cI := cI) (cL := cL) (cZ := cZ) a1 (by first | assumption | exact hy (by assumption) | exact hz (by assumption)))) (gPp.pre (av := [.int a1]) (wc := []) hK hN [] rfl (by decide)) gX6_edge_X6_isCase rfl kd_X6_isCase ⟨by decide, by decide⟩ (st := []) rfl (Nat.le_of_ble_eq_true rfl) dX6_edge_6 ⟨by decide, by decide⟩) (fun u hu => ?_)
  refine g_if_ne (tgt := 18) B dX6_edge_9 (by decide) (fun c2 => absurd (by decide) c2) (fun _ => ?_)
  refine g_aload_n B dX6_edge_12 0 rfl ?_
  refine g_iconst (v := (1 : Int32)) B dX6_edge_13 (by decide) ?_
  refine g_callW (w2 := (fun (_ : Unit) => [(hm, .inr (6, [.int (1 : Int32), .ref m1, .ref m2, .ref m3, .ref m4, .ref m5, .int dr, .ref m7, .int (0 : Int32), .ref m9, .ref m10, .ref m11, .ref m12, .ref m13, .int rl, .ref m15, .ref m16, .ref m17]))])) (g_runV (q0 := 0) (ci := 6) B hK rfl rfl (r_no l (D := D) (cI := cI) (cL := cL) (cZ := cZ) hm m1 m2 m3 m4 m5 m7 m9 m10 m11 m12 m13 m15 m16 m17 (0 : Int32) dr (0 : Int32) rl (1 : Int32) ) (gPw.pre (av := [.ref hm, .int (1 : Int32)]) (wc := [(hm, .inr (6, [.int (0 : Int32), .ref m1, .ref m2, .ref m3, .ref m4, .ref m5, .int dr, .ref m7, .int (0 : Int32), .ref m9, .ref m10, .ref m11, .ref m12, .ref m13, .int rl, .ref m15, .ref m16, .ref m17]))]) hK hN [0] rfl (by decide)) gX6_edge_X6_no rfl rfl kd_X6_no ⟨by decide, by decide⟩ (st := []) rfl (Nat.le_of_ble_eq_true rfl) dX6_edge_14 ⟨by decide, by decide⟩) hA (fun _ h => h) [0] [] (wr := []) rfl rfl (by decide) (by decide) [0] (by decide) (fun _ => rfl) (fun u hu => ?_)
  exact g_iret_w B hr rfl hlocks () (rfl) (trivial) [0] (by decide) rfl dX6_edge_17

set_option maxHeartbeats 4000000 in
set_option maxRecDepth 100000 in
theorem r_edge_v (l : Launch) {D : va_G} {cI cL cZ : ClassId} (hm : Nat) (m1 : Nat) (m2 : Nat) (m3 : Nat) (m4 : Nat) (m5 : Nat) (m7 : Nat) (m9 : Nat) (m10 : Nat) (m11 : Nat) (m12 : Nat) (m13 : Nat) (m15 : Nat) (m16 : Nat) (m17 : Nat) (th : Int32) (dr : Int32) (rl : Int32) (a1 : Nat) (h1 : a1 < 10000) : WM l yX6_edge wsX6_edge ({ frames := 4, cells := 2, slots := 33, locals := 90 } : Room) D (gTys cI cL cZ) [.ref hm, .int (nI a1), .int (0 : Int32)] [(hm, .inr (6, [.int th, .ref m1, .ref m2, .ref m3, .ref m4, .ref m5, .int dr, .ref m7, .int (0 : Int32), .ref m9, .ref m10, .ref m11, .ref m12, .ref m13, .int rl, .ref m15, .ref m16, .ref m17])), (m1, .inl (cI, 12, .inl (fun _ => (0 : Int32)))), (m2, .inl (cI, 12, .inl (fun _ => (0 : Int32)))), (m3, .inl (cI, 12, .inl (fun _ => (0 : Int32)))), (m4, .inl (cI, 24, .inl (fun _ => (-1 : Int32)))), (m5, .inl (cZ, 12, .inl (fun _ => (0 : Int32))))] (fun (_ : Unit) => True) (fun (_ : Unit) => some (.int (1 : Int32))) (fun (_ : Unit) => [(hm, .inr (6, [.int (0 : Int32), .ref m1, .ref m2, .ref m3, .ref m4, .ref m5, .int dr, .ref m7, .int (0 : Int32), .ref m9, .ref m10, .ref m11, .ref m12, .ref m13, .int rl, .ref m15, .ref m16, .ref m17]))]) := by
  refine WM.ofG cX6_edge 4 (some .int) (by decide +kernel) rfl (Nat.le_of_ble_eq_true rfl) ?_
  intro p e s m below meth c A hA B hr hlocks hname hK hN
  refine g_aload_n B dX6_edge_0 0 rfl ?_
  refine g_iconst (v := (0 : Int32)) B dX6_edge_1 (by decide) ?_
  refine g_put (C := RX6) (T := TX6) (N := 18) (ci := 6) B hK hin_X6_edge_RX6 0 rfl rfl 0 (by decide) tyX6 tyX6_ok nmX6 (List.mem_of_getElem? (i := 1) rfl) rfl rfl (ty := .int) (v := .int (0 : Int32)) (by decide +kernel) rfl rfl (Nat.le_of_ble_eq_true rfl) (w2 := [(hm, .inr (6, [.int (0 : Int32), .ref m1, .ref m2, .ref m3, .ref m4, .ref m5, .int dr, .ref m7, .int (0 : Int32), .ref m9, .ref m10, .ref m11, .ref m12, .ref m13, .int rl, .ref m15, .ref m16, .ref m17])), (m1, .inl (cI, 12, .inl (fun _ => (0 : Int32)))), (m2, .inl (cI, 12, .inl (fun _ => (0 : Int32)))), (m3, .inl (cI, 12, .inl (fun _ => (0 : Int32)))), (m4, .inl (cI, 24, .inl (fun _ => (-1 : Int32)))), (m5, .inl (cZ, 12, .inl (fun _ => (0 : Int32))))]) rfl (fun _ h => h) dX6_edge_2 ?_
  refine g_iload_n B dX6_edge_5 1 rfl ?_
  refine g_callP (g_runS B (PM.met (r_isCase_n l (D := D) (cI := cI) (cL := cL) (cZ := cZ) a1 (by omega))) (gPp.pre (av := [.int (nI a1)]) (wc := []) hK hN [] rfl (by decide)) gX6_edge_X6_isCase rfl kd_X6_isCase ⟨by decide, by decide⟩ (st := []) rfl (Nat.le_of_ble_eq_true rfl) dX6_edge_6 ⟨by decide, by decide⟩) (fun u hu => ?_)
  refine g_if_ne (tgt := 18) B dX6_edge_9 (by decide) (fun _ => ?_) (fun c2 => absurd c2 (by decide))
  refine g_aload_n B dX6_edge_18 0 rfl ?_
  refine g_iload_n B dX6_edge_19 1 rfl ?_
  refine g_callW (w2 := (fun (q_3 : Nat) => [(hm, .inr (6, [.int (0 : Int32), .ref m1, .ref m2, .ref m3, .ref m4, .ref m5, .int dr, .ref m7, .int (0 : Int32), .ref m9, .ref m10, .ref m11, .ref m12, .ref m13, .int rl, .ref m15, .ref m16, .ref m17])), (m1, .inl (cI, 12, .inl (fun _ => (0 : Int32)))), (m2, .inl (cI, 12, .inl (fun _ => (0 : Int32)))), (m3, .inl (cI, 12, .inl (fun _ => (0 : Int32)))), (m4, .inl (cI, 24, .inl (fun _ => (-1 : Int32)))), (m5, .inl (cZ, 12, .inl (fun _ => (0 : Int32)))), (q_3, .inl (cI, 2, .inl (upd (upd (fun _ => (0 : Int32)) 0 (1 : Int32)) 1 (1 : Int32))))])) (g_runV (q0 := 0) (ci := 6) B hK rfl rfl (r_way l (D := D) (cI := cI) (cL := cL) (cZ := cZ) hm m1 m2 m3 m4 m5 m7 m9 m10 m11 m12 m13 m15 m16 m17 (0 : Int32) dr (0 : Int32) rl a1 (by omega)) (gPw.pre (av := [.ref hm, .int (nI a1)]) (wc := [(hm, .inr (6, [.int (0 : Int32), .ref m1, .ref m2, .ref m3, .ref m4, .ref m5, .int dr, .ref m7, .int (0 : Int32), .ref m9, .ref m10, .ref m11, .ref m12, .ref m13, .int rl, .ref m15, .ref m16, .ref m17])), (m1, .inl (cI, 12, .inl (fun _ => (0 : Int32)))), (m2, .inl (cI, 12, .inl (fun _ => (0 : Int32)))), (m3, .inl (cI, 12, .inl (fun _ => (0 : Int32)))), (m4, .inl (cI, 24, .inl (fun _ => (-1 : Int32)))), (m5, .inl (cZ, 12, .inl (fun _ => (0 : Int32))))]) hK hN [0, 1, 2, 3, 4, 5] rfl (by decide)) gX6_edge_X6_way rfl rfl kd_X6_way ⟨by decide, by decide⟩ (st := []) rfl (Nat.le_of_ble_eq_true rfl) dX6_edge_20 ⟨by decide, by decide⟩) hA (fun _ h => h) [0, 1, 2, 3, 4, 5] [] (wr := []) rfl rfl (by decide) (by decide) [0, 1, 2, 3, 4, 5, 6] (by decide) (fun _ => rfl) (fun u hu => ?_)
  obtain ⟨q_3, e9⟩ : ∃ z, z = u := ⟨_, rfl⟩; subst e9
  try dsimp only at hu ⊢
  refine g_astore_n (lv' := [(0, .ref hm), (1, .int (nI a1)), (2, .int (0 : Int32)), (3, .ref q_3)]) B dX6_edge_23 rfl (by decide) [1, 2, 3, 0] rfl ?_
  refine g_iload_n B dX6_edge_24 2 rfl ?_
  refine g_iconst (v := (0 : Int32)) B dX6_edge_25 (by decide) ?_
  refine g_aload_n B dX6_edge_26 3 rfl ?_
  refine g_alen (v := (2 : Int32)) B hK 6 0 rfl rfl rfl dX6_edge_27 ?_
  refine g_iconst (v := (2 : Int32)) B dX6_edge_28 (by decide) ?_
  refine g_isub (v := (0 : Int32)) B dX6_edge_29 (by decide) ?_
  refine g_callP (g_runS B (PM.met (r_isIn_n l (D := D) (cI := cI) (cL := cL) (cZ := cZ) 0 0 0 (by omega) (by omega) (by omega))) (gPp.pre (av := [.int (0 : Int32), .int (0 : Int32), .int (0 : Int32)]) (wc := []) hK hN [] rfl (by decide)) gX6_edge_X6_isIn rfl kd_X6_isIn ⟨by decide, by decide⟩ (st := []) rfl (Nat.le_of_ble_eq_true rfl) dX6_edge_30 ⟨by decide, by decide⟩) (fun u hu => ?_)
  refine g_if_eq (tgt := 42) B dX6_edge_33 (by decide) (fun c5 => absurd c5 (by decide)) (fun _ => ?_)
  refine g_aload_n B dX6_edge_36 3 rfl ?_
  refine g_iload_n B dX6_edge_37 2 rfl ?_
  refine g_iald B hK 6 0 rfl rfl 0 rfl (by omega) (by omega) (v := (1 : Int32)) rfl dX6_edge_38 ?_
  refine g_goto (tgt := 47) B dX6_edge_39 (by decide) ?_
  refine g_widen (k := 2) (n := 33) (by (try dsimp only); omega) (by (try dsimp only); omega) ?_
  exact g_iret_w B hr rfl hlocks () (rfl) (trivial) [0] (by decide) rfl dX6_edge_47

set_option maxHeartbeats 4000000 in
set_option maxRecDepth 100000 in
theorem r_edge_x1 (l : Launch) {D : va_G} {cI cL cZ : ClassId} (hm : Nat) (m1 : Nat) (m2 : Nat) (m3 : Nat) (m4 : Nat) (m5 : Nat) (m7 : Nat) (m9 : Nat) (m10 : Nat) (m11 : Nat) (m12 : Nat) (m13 : Nat) (m15 : Nat) (m16 : Nat) (m17 : Nat) (th : Int32) (dr : Int32) (rl : Int32) (a1 : Nat) (a2 : Int32) (h1 : a1 < 10000) (h2 : inR a2 0 0 = false) : WM l yX6_edge wsX6_edge ({ frames := 4, cells := 2, slots := 33, locals := 90 } : Room) D (gTys cI cL cZ) [.ref hm, .int (nI a1), .int a2] [(hm, .inr (6, [.int th, .ref m1, .ref m2, .ref m3, .ref m4, .ref m5, .int dr, .ref m7, .int (0 : Int32), .ref m9, .ref m10, .ref m11, .ref m12, .ref m13, .int rl, .ref m15, .ref m16, .ref m17])), (m1, .inl (cI, 12, .inl (fun _ => (0 : Int32)))), (m2, .inl (cI, 12, .inl (fun _ => (0 : Int32)))), (m3, .inl (cI, 12, .inl (fun _ => (0 : Int32)))), (m4, .inl (cI, 24, .inl (fun _ => (-1 : Int32)))), (m5, .inl (cZ, 12, .inl (fun _ => (0 : Int32))))] (fun (_ : Unit) => True) (fun (_ : Unit) => some (.int (0 : Int32))) (fun (_ : Unit) => [(hm, .inr (6, [.int (2 : Int32), .ref m1, .ref m2, .ref m3, .ref m4, .ref m5, .int dr, .ref m7, .int (0 : Int32), .ref m9, .ref m10, .ref m11, .ref m12, .ref m13, .int rl, .ref m15, .ref m16, .ref m17]))]) := by
  refine WM.ofG cX6_edge 4 (some .int) (by decide +kernel) rfl (Nat.le_of_ble_eq_true rfl) ?_
  intro p e s m below meth c A hA B hr hlocks hname hK hN
  refine g_aload_n B dX6_edge_0 0 rfl ?_
  refine g_iconst (v := (0 : Int32)) B dX6_edge_1 (by decide) ?_
  refine g_put (C := RX6) (T := TX6) (N := 18) (ci := 6) B hK hin_X6_edge_RX6 0 rfl rfl 0 (by decide) tyX6 tyX6_ok nmX6 (List.mem_of_getElem? (i := 1) rfl) rfl rfl (ty := .int) (v := .int (0 : Int32)) (by decide +kernel) rfl rfl (Nat.le_of_ble_eq_true rfl) (w2 := [(hm, .inr (6, [.int (0 : Int32), .ref m1, .ref m2, .ref m3, .ref m4, .ref m5, .int dr, .ref m7, .int (0 : Int32), .ref m9, .ref m10, .ref m11, .ref m12, .ref m13, .int rl, .ref m15, .ref m16, .ref m17])), (m1, .inl (cI, 12, .inl (fun _ => (0 : Int32)))), (m2, .inl (cI, 12, .inl (fun _ => (0 : Int32)))), (m3, .inl (cI, 12, .inl (fun _ => (0 : Int32)))), (m4, .inl (cI, 24, .inl (fun _ => (-1 : Int32)))), (m5, .inl (cZ, 12, .inl (fun _ => (0 : Int32))))]) rfl (fun _ h => h) dX6_edge_2 ?_
  refine g_iload_n B dX6_edge_5 1 rfl ?_
  refine g_callP (g_runS B (PM.met (r_isCase_n l (D := D) (cI := cI) (cL := cL) (cZ := cZ) a1 (by omega))) (gPp.pre (av := [.int (nI a1)]) (wc := []) hK hN [] rfl (by decide)) gX6_edge_X6_isCase rfl kd_X6_isCase ⟨by decide, by decide⟩ (st := []) rfl (Nat.le_of_ble_eq_true rfl) dX6_edge_6 ⟨by decide, by decide⟩) (fun u hu => ?_)
  refine g_if_ne (tgt := 18) B dX6_edge_9 (by decide) (fun _ => ?_) (fun c2 => absurd c2 (by decide))
  refine g_aload_n B dX6_edge_18 0 rfl ?_
  refine g_iload_n B dX6_edge_19 1 rfl ?_
  refine g_callW (w2 := (fun (q_3 : Nat) => [(hm, .inr (6, [.int (0 : Int32), .ref m1, .ref m2, .ref m3, .ref m4, .ref m5, .int dr, .ref m7, .int (0 : Int32), .ref m9, .ref m10, .ref m11, .ref m12, .ref m13, .int rl, .ref m15, .ref m16, .ref m17])), (m1, .inl (cI, 12, .inl (fun _ => (0 : Int32)))), (m2, .inl (cI, 12, .inl (fun _ => (0 : Int32)))), (m3, .inl (cI, 12, .inl (fun _ => (0 : Int32)))), (m4, .inl (cI, 24, .inl (fun _ => (-1 : Int32)))), (m5, .inl (cZ, 12, .inl (fun _ => (0 : Int32)))), (q_3, .inl (cI, 2, .inl (upd (upd (fun _ => (0 : Int32)) 0 (1 : Int32)) 1 (1 : Int32))))])) (g_runV (q0 := 0) (ci := 6) B hK rfl rfl (r_way l (D := D) (cI := cI) (cL := cL) (cZ := cZ) hm m1 m2 m3 m4 m5 m7 m9 m10 m11 m12 m13 m15 m16 m17 (0 : Int32) dr (0 : Int32) rl a1 (by omega)) (gPw.pre (av := [.ref hm, .int (nI a1)]) (wc := [(hm, .inr (6, [.int (0 : Int32), .ref m1, .ref m2, .ref m3, .ref m4, .ref m5, .int dr, .ref m7, .int (0 : Int32), .ref m9, .ref m10, .ref m11, .ref m12, .ref m13, .int rl, .ref m15, .ref m16, .ref m17])), (m1, .inl (cI, 12, .inl (fun _ => (0 : Int32)))), (m2, .inl (cI, 12, .inl (fun _ => (0 : Int32)))), (m3, .inl (cI, 12, .inl (fun _ => (0 : Int32)))), (m4, .inl (cI, 24, .inl (fun _ => (-1 : Int32)))), (m5, .inl (cZ, 12, .inl (fun _ => (0 : Int32))))]) hK hN [0, 1, 2, 3, 4, 5] rfl (by decide)) gX6_edge_X6_way rfl rfl kd_X6_way ⟨by decide, by decide⟩ (st := []) rfl (Nat.le_of_ble_eq_true rfl) dX6_edge_20 ⟨by decide, by decide⟩) hA (fun _ h => h) [0, 1, 2, 3, 4, 5] [] (wr := []) rfl rfl (by decide) (by decide) [0, 1, 2, 3, 4, 5, 6] (by decide) (fun _ => rfl) (fun u hu => ?_)
  obtain ⟨q_3, e9⟩ : ∃ z, z = u := ⟨_, rfl⟩; subst e9
  try dsimp only at hu ⊢
  refine g_astore_n (lv' := [(0, .ref hm), (1, .int (nI a1)), (2, .int a2), (3, .ref q_3)]) B dX6_edge_23 rfl (by decide) [1, 2, 3, 0] rfl ?_
  refine g_iload_n B dX6_edge_24 2 rfl ?_
  refine g_iconst (v := (0 : Int32)) B dX6_edge_25 (by decide) ?_
  refine g_aload_n B dX6_edge_26 3 rfl ?_
  refine g_alen (v := (2 : Int32)) B hK 6 0 rfl rfl rfl dX6_edge_27 ?_
  refine g_iconst (v := (2 : Int32)) B dX6_edge_28 (by decide) ?_
  refine g_isub (v := (0 : Int32)) B dX6_edge_29 (by decide) ?_
  refine g_callP (g_runS B (PM.met (r_isIn_f l (D := D) (cI := cI) (cL := cL) (cZ := cZ) a2 (0 : Int32) (0 : Int32) (by first | assumption | exact hy (by assumption) | exact hz (by assumption)))) (gPp.pre (av := [.int a2, .int (0 : Int32), .int (0 : Int32)]) (wc := []) hK hN [] rfl (by decide)) gX6_edge_X6_isIn rfl kd_X6_isIn ⟨by decide, by decide⟩ (st := []) rfl (Nat.le_of_ble_eq_true rfl) dX6_edge_30 ⟨by decide, by decide⟩) (fun u hu => ?_)
  refine g_if_eq (tgt := 42) B dX6_edge_33 (by decide) (fun _ => ?_) (fun c5 => absurd (by decide) c5)
  refine g_aload_n B dX6_edge_42 0 rfl ?_
  refine g_iconst (v := (2 : Int32)) B dX6_edge_43 (by decide) ?_
  refine g_callW (w2 := (fun (_ : Unit) => [(hm, .inr (6, [.int (2 : Int32), .ref m1, .ref m2, .ref m3, .ref m4, .ref m5, .int dr, .ref m7, .int (0 : Int32), .ref m9, .ref m10, .ref m11, .ref m12, .ref m13, .int rl, .ref m15, .ref m16, .ref m17])), (m1, .inl (cI, 12, .inl (fun _ => (0 : Int32)))), (m2, .inl (cI, 12, .inl (fun _ => (0 : Int32)))), (m3, .inl (cI, 12, .inl (fun _ => (0 : Int32)))), (m4, .inl (cI, 24, .inl (fun _ => (-1 : Int32)))), (m5, .inl (cZ, 12, .inl (fun _ => (0 : Int32)))), (q_3, .inl (cI, 2, .inl (upd (upd (fun _ => (0 : Int32)) 0 (1 : Int32)) 1 (1 : Int32))))])) (g_runV (q0 := 0) (ci := 6) B hK rfl rfl (r_no l (D := D) (cI := cI) (cL := cL) (cZ := cZ) hm m1 m2 m3 m4 m5 m7 m9 m10 m11 m12 m13 m15 m16 m17 (0 : Int32) dr (0 : Int32) rl (2 : Int32) ) (gPw.pre (av := [.ref hm, .int (2 : Int32)]) (wc := [(hm, .inr (6, [.int (0 : Int32), .ref m1, .ref m2, .ref m3, .ref m4, .ref m5, .int dr, .ref m7, .int (0 : Int32), .ref m9, .ref m10, .ref m11, .ref m12, .ref m13, .int rl, .ref m15, .ref m16, .ref m17]))]) hK hN [0] rfl (by decide)) gX6_edge_X6_no rfl rfl kd_X6_no ⟨by decide, by decide⟩ (st := []) rfl (Nat.le_of_ble_eq_true rfl) dX6_edge_44 ⟨by decide, by decide⟩) hA (fun _ h => h) [0] [1, 2, 3, 4, 5, 6] (wr := [(m1, .inl (cI, 12, .inl (fun _ => (0 : Int32)))), (m2, .inl (cI, 12, .inl (fun _ => (0 : Int32)))), (m3, .inl (cI, 12, .inl (fun _ => (0 : Int32)))), (m4, .inl (cI, 24, .inl (fun _ => (-1 : Int32)))), (m5, .inl (cZ, 12, .inl (fun _ => (0 : Int32)))), (q_3, .inl (cI, 2, .inl (upd (upd (fun _ => (0 : Int32)) 0 (1 : Int32)) 1 (1 : Int32))))]) rfl rfl (by decide) (by decide) [6, 0, 1, 2, 3, 4, 5] (by decide) (fun _ => rfl) (fun u hu => ?_)
  refine g_widen (k := 2) (n := 33) (by (try dsimp only); omega) (by (try dsimp only); omega) ?_
  exact g_iret_w B hr rfl hlocks () (rfl) (trivial) [0] (by decide) rfl dX6_edge_47

set_option maxHeartbeats 4000000 in
set_option maxRecDepth 100000 in
theorem r_covers_x0 (l : Launch) {D : va_G} {cI cL cZ : ClassId} (hm : Nat) (m1 : Nat) (m2 : Nat) (m3 : Nat) (m4 : Nat) (m5 : Nat) (m7 : Nat) (m9 : Nat) (m10 : Nat) (m11 : Nat) (m12 : Nat) (m13 : Nat) (m15 : Nat) (m16 : Nat) (m17 : Nat) (th : Int32) (dr : Int32) (rl : Int32) (a1 : Int32) (h1 : inR a1 0 9999 = false) : WM l yX6_covers wsX6_covers ({ frames := 2, cells := 0, slots := 0, locals := 42 } : Room) D (gTys cI cL cZ) [.ref hm, .int a1] [(hm, .inr (6, [.int th, .ref m1, .ref m2, .ref m3, .ref m4, .ref m5, .int dr, .ref m7, .int (0 : Int32), .ref m9, .ref m10, .ref m11, .ref m12, .ref m13, .int rl, .ref m15, .ref m16, .ref m17]))] (fun (_ : Unit) => True) (fun (_ : Unit) => some (.int (0 : Int32))) (fun (_ : Unit) => [(hm, .inr (6, [.int (1 : Int32), .ref m1, .ref m2, .ref m3, .ref m4, .ref m5, .int dr, .ref m7, .int (0 : Int32), .ref m9, .ref m10, .ref m11, .ref m12, .ref m13, .int rl, .ref m15, .ref m16, .ref m17]))]) := by
  refine WM.ofG cX6_covers 2 (some .int) (by decide +kernel) rfl (Nat.le_of_ble_eq_true rfl) ?_
  intro p e s m below meth c A hA B hr hlocks hname hK hN
  refine g_aload_n B dX6_covers_0 0 rfl ?_
  refine g_iconst (v := (0 : Int32)) B dX6_covers_1 (by decide) ?_
  refine g_put (C := RX6) (T := TX6) (N := 18) (ci := 6) B hK hin_X6_covers_RX6 0 rfl rfl 0 (by decide) tyX6 tyX6_ok nmX6 (List.mem_of_getElem? (i := 1) rfl) rfl rfl (ty := .int) (v := .int (0 : Int32)) (by decide +kernel) rfl rfl (Nat.le_of_ble_eq_true rfl) (w2 := [(hm, .inr (6, [.int (0 : Int32), .ref m1, .ref m2, .ref m3, .ref m4, .ref m5, .int dr, .ref m7, .int (0 : Int32), .ref m9, .ref m10, .ref m11, .ref m12, .ref m13, .int rl, .ref m15, .ref m16, .ref m17]))]) rfl (fun _ h => h) dX6_covers_2 ?_
  refine g_iload_n B dX6_covers_5 1 rfl ?_
  refine g_callP (g_runS B (PM.met (r_isCase_f l (D := D) (cI := cI) (cL := cL) (cZ := cZ) a1 (by first | assumption | exact hy (by assumption) | exact hz (by assumption)))) (gPp.pre (av := [.int a1]) (wc := []) hK hN [] rfl (by decide)) gX6_covers_X6_isCase rfl kd_X6_isCase ⟨by decide, by decide⟩ (st := []) rfl (Nat.le_of_ble_eq_true rfl) dX6_covers_6 ⟨by decide, by decide⟩) (fun u hu => ?_)
  refine g_if_eq (tgt := 23) B dX6_covers_9 (by decide) (fun _ => ?_) (fun c2 => absurd (by decide) c2)
  refine g_aload_n B dX6_covers_23 0 rfl ?_
  refine g_iconst (v := (1 : Int32)) B dX6_covers_24 (by decide) ?_
  refine g_callW (w2 := (fun (_ : Unit) => [(hm, .inr (6, [.int (1 : Int32), .ref m1, .ref m2, .ref m3, .ref m4, .ref m5, .int dr, .ref m7, .int (0 : Int32), .ref m9, .ref m10, .ref m11, .ref m12, .ref m13, .int rl, .ref m15, .ref m16, .ref m17]))])) (g_runV (q0 := 0) (ci := 6) B hK rfl rfl (r_no l (D := D) (cI := cI) (cL := cL) (cZ := cZ) hm m1 m2 m3 m4 m5 m7 m9 m10 m11 m12 m13 m15 m16 m17 (0 : Int32) dr (0 : Int32) rl (1 : Int32) ) (gPw.pre (av := [.ref hm, .int (1 : Int32)]) (wc := [(hm, .inr (6, [.int (0 : Int32), .ref m1, .ref m2, .ref m3, .ref m4, .ref m5, .int dr, .ref m7, .int (0 : Int32), .ref m9, .ref m10, .ref m11, .ref m12, .ref m13, .int rl, .ref m15, .ref m16, .ref m17]))]) hK hN [0] rfl (by decide)) gX6_covers_X6_no rfl rfl kd_X6_no ⟨by decide, by decide⟩ (st := []) rfl (Nat.le_of_ble_eq_true rfl) dX6_covers_25 ⟨by decide, by decide⟩) hA (fun _ h => h) [0] [] (wr := []) rfl rfl (by decide) (by decide) [0] (by decide) (fun _ => rfl) (fun u hu => ?_)
  exact g_iret_w B hr rfl hlocks () (rfl) (trivial) [0] (by decide) rfl dX6_covers_28

set_option maxHeartbeats 4000000 in
set_option maxRecDepth 100000 in
theorem r_covers_v (l : Launch) {D : va_G} {cI cL cZ : ClassId} (hm : Nat) (m1 : Nat) (m2 : Nat) (m3 : Nat) (m4 : Nat) (m5 : Nat) (m7 : Nat) (m9 : Nat) (m10 : Nat) (m11 : Nat) (m12 : Nat) (m13 : Nat) (m15 : Nat) (m16 : Nat) (m17 : Nat) (th : Int32) (dr : Int32) (rl : Int32) (a1 : Nat) (h1 : a1 < 10000) : WM l yX6_covers wsX6_covers ({ frames := 5, cells := 2, slots := 33, locals := 114 } : Room) D (gTys cI cL cZ) [.ref hm, .int (nI a1)] [(hm, .inr (6, [.int th, .ref m1, .ref m2, .ref m3, .ref m4, .ref m5, .int dr, .ref m7, .int (0 : Int32), .ref m9, .ref m10, .ref m11, .ref m12, .ref m13, .int rl, .ref m15, .ref m16, .ref m17])), (m1, .inl (cI, 12, .inl (fun _ => (0 : Int32)))), (m2, .inl (cI, 12, .inl (fun _ => (0 : Int32)))), (m3, .inl (cI, 12, .inl (fun _ => (0 : Int32)))), (m4, .inl (cI, 24, .inl (fun _ => (-1 : Int32)))), (m5, .inl (cZ, 12, .inl (fun _ => (0 : Int32))))] (fun (_ : Unit) => True) (fun (_ : Unit) => some (.int (1 : Int32))) (fun (_ : Unit) => [(hm, .inr (6, [.int (0 : Int32), .ref m1, .ref m2, .ref m3, .ref m4, .ref m5, .int dr, .ref m7, .int (0 : Int32), .ref m9, .ref m10, .ref m11, .ref m12, .ref m13, .int rl, .ref m15, .ref m16, .ref m17]))]) := by
  refine WM.ofG cX6_covers 2 (some .int) (by decide +kernel) rfl (Nat.le_of_ble_eq_true rfl) ?_
  intro p e s m below meth c A hA B hr hlocks hname hK hN
  refine g_aload_n B dX6_covers_0 0 rfl ?_
  refine g_iconst (v := (0 : Int32)) B dX6_covers_1 (by decide) ?_
  refine g_put (C := RX6) (T := TX6) (N := 18) (ci := 6) B hK hin_X6_covers_RX6 0 rfl rfl 0 (by decide) tyX6 tyX6_ok nmX6 (List.mem_of_getElem? (i := 1) rfl) rfl rfl (ty := .int) (v := .int (0 : Int32)) (by decide +kernel) rfl rfl (Nat.le_of_ble_eq_true rfl) (w2 := [(hm, .inr (6, [.int (0 : Int32), .ref m1, .ref m2, .ref m3, .ref m4, .ref m5, .int dr, .ref m7, .int (0 : Int32), .ref m9, .ref m10, .ref m11, .ref m12, .ref m13, .int rl, .ref m15, .ref m16, .ref m17])), (m1, .inl (cI, 12, .inl (fun _ => (0 : Int32)))), (m2, .inl (cI, 12, .inl (fun _ => (0 : Int32)))), (m3, .inl (cI, 12, .inl (fun _ => (0 : Int32)))), (m4, .inl (cI, 24, .inl (fun _ => (-1 : Int32)))), (m5, .inl (cZ, 12, .inl (fun _ => (0 : Int32))))]) rfl (fun _ h => h) dX6_covers_2 ?_
  refine g_iload_n B dX6_covers_5 1 rfl ?_
  refine g_callP (g_runS B (PM.met (r_isCase_n l (D := D) (cI := cI) (cL := cL) (cZ := cZ) a1 (by omega))) (gPp.pre (av := [.int (nI a1)]) (wc := []) hK hN [] rfl (by decide)) gX6_covers_X6_isCase rfl kd_X6_isCase ⟨by decide, by decide⟩ (st := []) rfl (Nat.le_of_ble_eq_true rfl) dX6_covers_6 ⟨by decide, by decide⟩) (fun u hu => ?_)
  refine g_if_eq (tgt := 23) B dX6_covers_9 (by decide) (fun c2 => absurd c2 (by decide)) (fun _ => ?_)
  refine g_aload_n B dX6_covers_12 0 rfl ?_
  refine g_iload_n B dX6_covers_13 1 rfl ?_
  refine g_callW (w2 := (fun (_ : Unit) => [(hm, .inr (6, [.int (0 : Int32), .ref m1, .ref m2, .ref m3, .ref m4, .ref m5, .int dr, .ref m7, .int (0 : Int32), .ref m9, .ref m10, .ref m11, .ref m12, .ref m13, .int rl, .ref m15, .ref m16, .ref m17])), (m1, .inl (cI, 12, .inl (fun _ => (0 : Int32)))), (m2, .inl (cI, 12, .inl (fun _ => (0 : Int32)))), (m3, .inl (cI, 12, .inl (fun _ => (0 : Int32)))), (m4, .inl (cI, 24, .inl (fun _ => (-1 : Int32)))), (m5, .inl (cZ, 12, .inl (fun _ => (0 : Int32))))])) (g_runV (q0 := 0) (ci := 6) B hK rfl rfl (r_edgesOf l (D := D) (cI := cI) (cL := cL) (cZ := cZ) hm m1 m2 m3 m4 m5 m7 m9 m10 m11 m12 m13 m15 m16 m17 (0 : Int32) dr (0 : Int32) rl a1 (by omega)) (gPw.pre (av := [.ref hm, .int (nI a1)]) (wc := [(hm, .inr (6, [.int (0 : Int32), .ref m1, .ref m2, .ref m3, .ref m4, .ref m5, .int dr, .ref m7, .int (0 : Int32), .ref m9, .ref m10, .ref m11, .ref m12, .ref m13, .int rl, .ref m15, .ref m16, .ref m17])), (m1, .inl (cI, 12, .inl (fun _ => (0 : Int32)))), (m2, .inl (cI, 12, .inl (fun _ => (0 : Int32)))), (m3, .inl (cI, 12, .inl (fun _ => (0 : Int32)))), (m4, .inl (cI, 24, .inl (fun _ => (-1 : Int32)))), (m5, .inl (cZ, 12, .inl (fun _ => (0 : Int32))))]) hK hN [0, 1, 2, 3, 4, 5] rfl (by decide)) gX6_covers_X6_edgesOf rfl rfl kd_X6_edgesOf ⟨by decide, by decide⟩ (st := []) rfl (Nat.le_of_ble_eq_true rfl) dX6_covers_14 ⟨by decide, by decide⟩) hA (fun _ h => h) [0, 1, 2, 3, 4, 5] [] (wr := []) rfl rfl (by decide) (by decide) [0, 1, 2, 3, 4, 5] (by decide) (fun _ => rfl) (fun u hu => ?_)
  refine g_callP (g_runS B (PM.met (r_count_2 l (D := D) (cI := cI) (cL := cL) (cZ := cZ)  )) (gPp.pre (av := [.int (2 : Int32)]) (wc := []) hK hN [] rfl (by decide)) gX6_covers_X6_count rfl kd_X6_count ⟨by decide, by decide⟩ (st := []) rfl (Nat.le_of_ble_eq_true rfl) dX6_covers_17 ⟨by decide, by decide⟩) (fun u hu => ?_)
  refine g_goto (tgt := 28) B dX6_covers_20 (by decide) ?_
  refine g_widen (k := 2) (n := 33) (by (try dsimp only); omega) (by (try dsimp only); omega) ?_
  exact g_iret_w B hr rfl hlocks () (rfl) (trivial) [0] (by decide) rfl dX6_covers_28

set_option maxHeartbeats 4000000 in
set_option maxRecDepth 100000 in
theorem r_weights_x0 (l : Launch) {D : va_G} {cI cL cZ : ClassId} (hm : Nat) (m1 : Nat) (m2 : Nat) (m3 : Nat) (m4 : Nat) (m5 : Nat) (m7 : Nat) (m9 : Nat) (m10 : Nat) (m11 : Nat) (m12 : Nat) (m13 : Nat) (m15 : Nat) (m16 : Nat) (m17 : Nat) (th : Int32) (dr : Int32) (rl : Int32) (a1 : Int32) (a2 : Int32) (a3 : Int32) (a4 : Int32) (h_a1 : inR a1 0 3 = false) : WM l yX6_weights wsX6_weights ({ frames := 2, cells := 0, slots := 0, locals := 42 } : Room) D (gTys cI cL cZ) [.ref hm, .int a1, .int a2, .int a3, .int a4] [(hm, .inr (6, [.int th, .ref m1, .ref m2, .ref m3, .ref m4, .ref m5, .int dr, .ref m7, .int (0 : Int32), .ref m9, .ref m10, .ref m11, .ref m12, .ref m13, .int rl, .ref m15, .ref m16, .ref m17]))] (fun (_ : Unit) => True) (fun (_ : Unit) => some (.int (0 : Int32))) (fun (_ : Unit) => [(hm, .inr (6, [.int (1 : Int32), .ref m1, .ref m2, .ref m3, .ref m4, .ref m5, .int dr, .ref m7, .int (0 : Int32), .ref m9, .ref m10, .ref m11, .ref m12, .ref m13, .int rl, .ref m15, .ref m16, .ref m17]))]) := by
  refine WM.ofG cX6_weights 6 (some .int) (by decide +kernel) rfl (Nat.le_of_ble_eq_true rfl) ?_
  intro p e s m below meth c A hA B hr hlocks hname hK hN
  refine g_aload_n B dX6_weights_0 0 rfl ?_
  refine g_iconst (v := (0 : Int32)) B dX6_weights_1 (by decide) ?_
  refine g_put (C := RX6) (T := TX6) (N := 18) (ci := 6) B hK hin_X6_weights_RX6 0 rfl rfl 0 (by decide) tyX6 tyX6_ok nmX6 (List.mem_of_getElem? (i := 1) rfl) rfl rfl (ty := .int) (v := .int (0 : Int32)) (by decide +kernel) rfl rfl (Nat.le_of_ble_eq_true rfl) (w2 := [(hm, .inr (6, [.int (0 : Int32), .ref m1, .ref m2, .ref m3, .ref m4, .ref m5, .int dr, .ref m7, .int (0 : Int32), .ref m9, .ref m10, .ref m11, .ref m12, .ref m13, .int rl, .ref m15, .ref m16, .ref m17]))]) rfl (fun _ h => h) dX6_weights_2 ?_
  refine g_iload_n B dX6_weights_5 1 rfl ?_
  refine g_callP (g_runS B (PM.met (r_isSlot_f l (D := D) (cI := cI) (cL := cL) (cZ := cZ) a1 (by first | assumption | exact hy (by assumption) | exact hz (by assumption)))) (gPp.pre (av := [.int a1]) (wc := []) hK hN [] rfl (by decide)) gX6_weights_X6_isSlot rfl kd_X6_isSlot ⟨by decide, by decide⟩ (st := []) rfl (Nat.le_of_ble_eq_true rfl) dX6_weights_6 ⟨by decide, by decide⟩) (fun u hu => ?_)
  refine g_if_ne (tgt := 18) B dX6_weights_9 (by decide) (fun c2 => absurd (by decide) c2) (fun _ => ?_)
  refine g_aload_n B dX6_weights_12 0 rfl ?_
  refine g_iconst (v := (1 : Int32)) B dX6_weights_13 (by decide) ?_
  refine g_callW (w2 := (fun (_ : Unit) => [(hm, .inr (6, [.int (1 : Int32), .ref m1, .ref m2, .ref m3, .ref m4, .ref m5, .int dr, .ref m7, .int (0 : Int32), .ref m9, .ref m10, .ref m11, .ref m12, .ref m13, .int rl, .ref m15, .ref m16, .ref m17]))])) (g_runV (q0 := 0) (ci := 6) B hK rfl rfl (r_no l (D := D) (cI := cI) (cL := cL) (cZ := cZ) hm m1 m2 m3 m4 m5 m7 m9 m10 m11 m12 m13 m15 m16 m17 (0 : Int32) dr (0 : Int32) rl (1 : Int32) ) (gPw.pre (av := [.ref hm, .int (1 : Int32)]) (wc := [(hm, .inr (6, [.int (0 : Int32), .ref m1, .ref m2, .ref m3, .ref m4, .ref m5, .int dr, .ref m7, .int (0 : Int32), .ref m9, .ref m10, .ref m11, .ref m12, .ref m13, .int rl, .ref m15, .ref m16, .ref m17]))]) hK hN [0] rfl (by decide)) gX6_weights_X6_no rfl rfl kd_X6_no ⟨by decide, by decide⟩ (st := []) rfl (Nat.le_of_ble_eq_true rfl) dX6_weights_14 ⟨by decide, by decide⟩) hA (fun _ h => h) [0] [] (wr := []) rfl rfl (by decide) (by decide) [0] (by decide) (fun _ => rfl) (fun u hu => ?_)
  exact g_iret_w B hr rfl hlocks () (rfl) (trivial) [0] (by decide) rfl dX6_weights_17

set_option maxHeartbeats 4000000 in
set_option maxRecDepth 100000 in
theorem r_weights_x1 (l : Launch) {D : va_G} {cI cL cZ : ClassId} (hm : Nat) (m1 : Nat) (m2 : Nat) (m3 : Nat) (m4 : Nat) (m5 : Nat) (m7 : Nat) (m9 : Nat) (m10 : Nat) (m11 : Nat) (m12 : Nat) (m13 : Nat) (m15 : Nat) (m16 : Nat) (m17 : Nat) (th : Int32) (dr : Int32) (rl : Int32) (a1 : Int32) (a2 : Int32) (a3 : Int32) (a4 : Int32) (h_a1 : inR a1 0 3 = true) (h_a2 : inR a2 0 9 = false) : WM l yX6_weights wsX6_weights ({ frames := 2, cells := 0, slots := 0, locals := 42 } : Room) D (gTys cI cL cZ) [.ref hm, .int a1, .int a2, .int a3, .int a4] [(hm, .inr (6, [.int th, .ref m1, .ref m2, .ref m3, .ref m4, .ref m5, .int dr, .ref m7, .int (0 : Int32), .ref m9, .ref m10, .ref m11, .ref m12, .ref m13, .int rl, .ref m15, .ref m16, .ref m17]))] (fun (_ : Unit) => True) (fun (_ : Unit) => some (.int (0 : Int32))) (fun (_ : Unit) => [(hm, .inr (6, [.int (2 : Int32), .ref m1, .ref m2, .ref m3, .ref m4, .ref m5, .int dr, .ref m7, .int (0 : Int32), .ref m9, .ref m10, .ref m11, .ref m12, .ref m13, .int rl, .ref m15, .ref m16, .ref m17]))]) := by
  refine WM.ofG cX6_weights 6 (some .int) (by decide +kernel) rfl (Nat.le_of_ble_eq_true rfl) ?_
  intro p e s m below meth c A hA B hr hlocks hname hK hN
  refine g_aload_n B dX6_weights_0 0 rfl ?_
  refine g_iconst (v := (0 : Int32)) B dX6_weights_1 (by decide) ?_
  refine g_put (C := RX6) (T := TX6) (N := 18) (ci := 6) B hK hin_X6_weights_RX6 0 rfl rfl 0 (by decide) tyX6 tyX6_ok nmX6 (List.mem_of_getElem? (i := 1) rfl) rfl rfl (ty := .int) (v := .int (0 : Int32)) (by decide +kernel) rfl rfl (Nat.le_of_ble_eq_true rfl) (w2 := [(hm, .inr (6, [.int (0 : Int32), .ref m1, .ref m2, .ref m3, .ref m4, .ref m5, .int dr, .ref m7, .int (0 : Int32), .ref m9, .ref m10, .ref m11, .ref m12, .ref m13, .int rl, .ref m15, .ref m16, .ref m17]))]) rfl (fun _ h => h) dX6_weights_2 ?_
  refine g_iload_n B dX6_weights_5 1 rfl ?_
  refine g_callP (g_runS B (PM.met (r_isSlot_t l (D := D) (cI := cI) (cL := cL) (cZ := cZ) a1 (by first | assumption | exact hy (by assumption) | exact hz (by assumption)))) (gPp.pre (av := [.int a1]) (wc := []) hK hN [] rfl (by decide)) gX6_weights_X6_isSlot rfl kd_X6_isSlot ⟨by decide, by decide⟩ (st := []) rfl (Nat.le_of_ble_eq_true rfl) dX6_weights_6 ⟨by decide, by decide⟩) (fun u hu => ?_)
  refine g_if_ne (tgt := 18) B dX6_weights_9 (by decide) (fun _ => ?_) (fun c2 => absurd c2 (by decide))
  refine g_iload_n B dX6_weights_18 2 rfl ?_
  refine g_iconst (v := (0 : Int32)) B dX6_weights_19 (by decide) ?_
  refine g_bipush (v := (9 : Int32)) B dX6_weights_20 (by decide) ?_
  refine g_callP (g_runS B (PM.met (r_isIn_f l (D := D) (cI := cI) (cL := cL) (cZ := cZ) a2 (0 : Int32) (9 : Int32) (by first | assumption | exact hy (by assumption) | exact hz (by assumption)))) (gPp.pre (av := [.int a2, .int (0 : Int32), .int (9 : Int32)]) (wc := []) hK hN [] rfl (by decide)) gX6_weights_X6_isIn rfl kd_X6_isIn ⟨by decide, by decide⟩ (st := []) rfl (Nat.le_of_ble_eq_true rfl) dX6_weights_22 ⟨by decide, by decide⟩) (fun u hu => ?_)
  refine g_if_eq (tgt := 49) B dX6_weights_25 (by decide) (fun _ => ?_) (fun c4 => absurd (by decide) c4)
  refine g_aload_n B dX6_weights_49 0 rfl ?_
  refine g_iconst (v := (2 : Int32)) B dX6_weights_50 (by decide) ?_
  refine g_callW (w2 := (fun (_ : Unit) => [(hm, .inr (6, [.int (2 : Int32), .ref m1, .ref m2, .ref m3, .ref m4, .ref m5, .int dr, .ref m7, .int (0 : Int32), .ref m9, .ref m10, .ref m11, .ref m12, .ref m13, .int rl, .ref m15, .ref m16, .ref m17]))])) (g_runV (q0 := 0) (ci := 6) B hK rfl rfl (r_no l (D := D) (cI := cI) (cL := cL) (cZ := cZ) hm m1 m2 m3 m4 m5 m7 m9 m10 m11 m12 m13 m15 m16 m17 (0 : Int32) dr (0 : Int32) rl (2 : Int32) ) (gPw.pre (av := [.ref hm, .int (2 : Int32)]) (wc := [(hm, .inr (6, [.int (0 : Int32), .ref m1, .ref m2, .ref m3, .ref m4, .ref m5, .int dr, .ref m7, .int (0 : Int32), .ref m9, .ref m10, .ref m11, .ref m12, .ref m13, .int rl, .ref m15, .ref m16, .ref m17]))]) hK hN [0] rfl (by decide)) gX6_weights_X6_no rfl rfl kd_X6_no ⟨by decide, by decide⟩ (st := []) rfl (Nat.le_of_ble_eq_true rfl) dX6_weights_51 ⟨by decide, by decide⟩) hA (fun _ h => h) [0] [] (wr := []) rfl rfl (by decide) (by decide) [0] (by decide) (fun _ => rfl) (fun u hu => ?_)
  exact g_iret_w B hr rfl hlocks () (rfl) (trivial) [0] (by decide) rfl dX6_weights_54

set_option maxHeartbeats 4000000 in
set_option maxRecDepth 100000 in
theorem r_weights_x2 (l : Launch) {D : va_G} {cI cL cZ : ClassId} (hm : Nat) (m1 : Nat) (m2 : Nat) (m3 : Nat) (m4 : Nat) (m5 : Nat) (m7 : Nat) (m9 : Nat) (m10 : Nat) (m11 : Nat) (m12 : Nat) (m13 : Nat) (m15 : Nat) (m16 : Nat) (m17 : Nat) (th : Int32) (dr : Int32) (rl : Int32) (a1 : Int32) (a2 : Int32) (a3 : Int32) (a4 : Int32) (h_a1 : inR a1 0 3 = true) (h_a2 : inR a2 0 9 = true) (h_a3 : inR a3 0 9 = false) : WM l yX6_weights wsX6_weights ({ frames := 2, cells := 0, slots := 0, locals := 42 } : Room) D (gTys cI cL cZ) [.ref hm, .int a1, .int a2, .int a3, .int a4] [(hm, .inr (6, [.int th, .ref m1, .ref m2, .ref m3, .ref m4, .ref m5, .int dr, .ref m7, .int (0 : Int32), .ref m9, .ref m10, .ref m11, .ref m12, .ref m13, .int rl, .ref m15, .ref m16, .ref m17]))] (fun (_ : Unit) => True) (fun (_ : Unit) => some (.int (0 : Int32))) (fun (_ : Unit) => [(hm, .inr (6, [.int (2 : Int32), .ref m1, .ref m2, .ref m3, .ref m4, .ref m5, .int dr, .ref m7, .int (0 : Int32), .ref m9, .ref m10, .ref m11, .ref m12, .ref m13, .int rl, .ref m15, .ref m16, .ref m17]))]) := by
  refine WM.ofG cX6_weights 6 (some .int) (by decide +kernel) rfl (Nat.le_of_ble_eq_true rfl) ?_
  intro p e s m below meth c A hA B hr hlocks hname hK hN
  refine g_aload_n B dX6_weights_0 0 rfl ?_
  refine g_iconst (v := (0 : Int32)) B dX6_weights_1 (by decide) ?_
  refine g_put (C := RX6) (T := TX6) (N := 18) (ci := 6) B hK hin_X6_weights_RX6 0 rfl rfl 0 (by decide) tyX6 tyX6_ok nmX6 (List.mem_of_getElem? (i := 1) rfl) rfl rfl (ty := .int) (v := .int (0 : Int32)) (by decide +kernel) rfl rfl (Nat.le_of_ble_eq_true rfl) (w2 := [(hm, .inr (6, [.int (0 : Int32), .ref m1, .ref m2, .ref m3, .ref m4, .ref m5, .int dr, .ref m7, .int (0 : Int32), .ref m9, .ref m10, .ref m11, .ref m12, .ref m13, .int rl, .ref m15, .ref m16, .ref m17]))]) rfl (fun _ h => h) dX6_weights_2 ?_
  refine g_iload_n B dX6_weights_5 1 rfl ?_
  refine g_callP (g_runS B (PM.met (r_isSlot_t l (D := D) (cI := cI) (cL := cL) (cZ := cZ) a1 (by first | assumption | exact hy (by assumption) | exact hz (by assumption)))) (gPp.pre (av := [.int a1]) (wc := []) hK hN [] rfl (by decide)) gX6_weights_X6_isSlot rfl kd_X6_isSlot ⟨by decide, by decide⟩ (st := []) rfl (Nat.le_of_ble_eq_true rfl) dX6_weights_6 ⟨by decide, by decide⟩) (fun u hu => ?_)
  refine g_if_ne (tgt := 18) B dX6_weights_9 (by decide) (fun _ => ?_) (fun c2 => absurd c2 (by decide))
  refine g_iload_n B dX6_weights_18 2 rfl ?_
  refine g_iconst (v := (0 : Int32)) B dX6_weights_19 (by decide) ?_
  refine g_bipush (v := (9 : Int32)) B dX6_weights_20 (by decide) ?_
  refine g_callP (g_runS B (PM.met (r_isIn_t l (D := D) (cI := cI) (cL := cL) (cZ := cZ) a2 (0 : Int32) (9 : Int32) (by first | assumption | exact hy (by assumption) | exact hz (by assumption)))) (gPp.pre (av := [.int a2, .int (0 : Int32), .int (9 : Int32)]) (wc := []) hK hN [] rfl (by decide)) gX6_weights_X6_isIn rfl kd_X6_isIn ⟨by decide, by decide⟩ (st := []) rfl (Nat.le_of_ble_eq_true rfl) dX6_weights_22 ⟨by decide, by decide⟩) (fun u hu => ?_)
  refine g_if_eq (tgt := 49) B dX6_weights_25 (by decide) (fun c4 => absurd c4 (by decide)) (fun _ => ?_)
  refine g_iload_n B dX6_weights_28 3 rfl ?_
  refine g_iconst (v := (0 : Int32)) B dX6_weights_29 (by decide) ?_
  refine g_bipush (v := (9 : Int32)) B dX6_weights_30 (by decide) ?_
  refine g_callP (g_runS B (PM.met (r_isIn_f l (D := D) (cI := cI) (cL := cL) (cZ := cZ) a3 (0 : Int32) (9 : Int32) (by first | assumption | exact hy (by assumption) | exact hz (by assumption)))) (gPp.pre (av := [.int a3, .int (0 : Int32), .int (9 : Int32)]) (wc := []) hK hN [] rfl (by decide)) gX6_weights_X6_isIn rfl kd_X6_isIn ⟨by decide, by decide⟩ (st := []) rfl (Nat.le_of_ble_eq_true rfl) dX6_weights_32 ⟨by decide, by decide⟩) (fun u hu => ?_)
  refine g_if_eq (tgt := 49) B dX6_weights_35 (by decide) (fun _ => ?_) (fun c6 => absurd (by decide) c6)
  refine g_aload_n B dX6_weights_49 0 rfl ?_
  refine g_iconst (v := (2 : Int32)) B dX6_weights_50 (by decide) ?_
  refine g_callW (w2 := (fun (_ : Unit) => [(hm, .inr (6, [.int (2 : Int32), .ref m1, .ref m2, .ref m3, .ref m4, .ref m5, .int dr, .ref m7, .int (0 : Int32), .ref m9, .ref m10, .ref m11, .ref m12, .ref m13, .int rl, .ref m15, .ref m16, .ref m17]))])) (g_runV (q0 := 0) (ci := 6) B hK rfl rfl (r_no l (D := D) (cI := cI) (cL := cL) (cZ := cZ) hm m1 m2 m3 m4 m5 m7 m9 m10 m11 m12 m13 m15 m16 m17 (0 : Int32) dr (0 : Int32) rl (2 : Int32) ) (gPw.pre (av := [.ref hm, .int (2 : Int32)]) (wc := [(hm, .inr (6, [.int (0 : Int32), .ref m1, .ref m2, .ref m3, .ref m4, .ref m5, .int dr, .ref m7, .int (0 : Int32), .ref m9, .ref m10, .ref m11, .ref m12, .ref m13, .int rl, .ref m15, .ref m16, .ref m17]))]) hK hN [0] rfl (by decide)) gX6_weights_X6_no rfl rfl kd_X6_no ⟨by decide, by decide⟩ (st := []) rfl (Nat.le_of_ble_eq_true rfl) dX6_weights_51 ⟨by decide, by decide⟩) hA (fun _ h => h) [0] [] (wr := []) rfl rfl (by decide) (by decide) [0] (by decide) (fun _ => rfl) (fun u hu => ?_)
  exact g_iret_w B hr rfl hlocks () (rfl) (trivial) [0] (by decide) rfl dX6_weights_54

set_option maxHeartbeats 4000000 in
set_option maxRecDepth 100000 in
theorem r_weights_x3 (l : Launch) {D : va_G} {cI cL cZ : ClassId} (hm : Nat) (m1 : Nat) (m2 : Nat) (m3 : Nat) (m4 : Nat) (m5 : Nat) (m7 : Nat) (m9 : Nat) (m10 : Nat) (m11 : Nat) (m12 : Nat) (m13 : Nat) (m15 : Nat) (m16 : Nat) (m17 : Nat) (th : Int32) (dr : Int32) (rl : Int32) (a1 : Int32) (a2 : Int32) (a3 : Int32) (a4 : Int32) (h_a1 : inR a1 0 3 = true) (h_a2 : inR a2 0 9 = true) (h_a3 : inR a3 0 9 = true) (h_a4 : inR a4 0 9 = false) : WM l yX6_weights wsX6_weights ({ frames := 2, cells := 0, slots := 0, locals := 42 } : Room) D (gTys cI cL cZ) [.ref hm, .int a1, .int a2, .int a3, .int a4] [(hm, .inr (6, [.int th, .ref m1, .ref m2, .ref m3, .ref m4, .ref m5, .int dr, .ref m7, .int (0 : Int32), .ref m9, .ref m10, .ref m11, .ref m12, .ref m13, .int rl, .ref m15, .ref m16, .ref m17]))] (fun (_ : Unit) => True) (fun (_ : Unit) => some (.int (0 : Int32))) (fun (_ : Unit) => [(hm, .inr (6, [.int (2 : Int32), .ref m1, .ref m2, .ref m3, .ref m4, .ref m5, .int dr, .ref m7, .int (0 : Int32), .ref m9, .ref m10, .ref m11, .ref m12, .ref m13, .int rl, .ref m15, .ref m16, .ref m17]))]) := by
  refine WM.ofG cX6_weights 6 (some .int) (by decide +kernel) rfl (Nat.le_of_ble_eq_true rfl) ?_
  intro p e s m below meth c A hA B hr hlocks hname hK hN
  refine g_aload_n B dX6_weights_0 0 rfl ?_
  refine g_iconst (v := (0 : Int32)) B dX6_weights_1 (by decide) ?_
  refine g_put (C := RX6) (T := TX6) (N := 18) (ci := 6) B hK hin_X6_weights_RX6 0 rfl rfl 0 (by decide) tyX6 tyX6_ok nmX6 (List.mem_of_getElem? (i := 1) rfl) rfl rfl (ty := .int) (v := .int (0 : Int32)) (by decide +kernel) rfl rfl (Nat.le_of_ble_eq_true rfl) (w2 := [(hm, .inr (6, [.int (0 : Int32), .ref m1, .ref m2, .ref m3, .ref m4, .ref m5, .int dr, .ref m7, .int (0 : Int32), .ref m9, .ref m10, .ref m11, .ref m12, .ref m13, .int rl, .ref m15, .ref m16, .ref m17]))]) rfl (fun _ h => h) dX6_weights_2 ?_
  refine g_iload_n B dX6_weights_5 1 rfl ?_
  refine g_callP (g_runS B (PM.met (r_isSlot_t l (D := D) (cI := cI) (cL := cL) (cZ := cZ) a1 (by first | assumption | exact hy (by assumption) | exact hz (by assumption)))) (gPp.pre (av := [.int a1]) (wc := []) hK hN [] rfl (by decide)) gX6_weights_X6_isSlot rfl kd_X6_isSlot ⟨by decide, by decide⟩ (st := []) rfl (Nat.le_of_ble_eq_true rfl) dX6_weights_6 ⟨by decide, by decide⟩) (fun u hu => ?_)
  refine g_if_ne (tgt := 18) B dX6_weights_9 (by decide) (fun _ => ?_) (fun c2 => absurd c2 (by decide))
  refine g_iload_n B dX6_weights_18 2 rfl ?_
  refine g_iconst (v := (0 : Int32)) B dX6_weights_19 (by decide) ?_
  refine g_bipush (v := (9 : Int32)) B dX6_weights_20 (by decide) ?_
  refine g_callP (g_runS B (PM.met (r_isIn_t l (D := D) (cI := cI) (cL := cL) (cZ := cZ) a2 (0 : Int32) (9 : Int32) (by first | assumption | exact hy (by assumption) | exact hz (by assumption)))) (gPp.pre (av := [.int a2, .int (0 : Int32), .int (9 : Int32)]) (wc := []) hK hN [] rfl (by decide)) gX6_weights_X6_isIn rfl kd_X6_isIn ⟨by decide, by decide⟩ (st := []) rfl (Nat.le_of_ble_eq_true rfl) dX6_weights_22 ⟨by decide, by decide⟩) (fun u hu => ?_)
  refine g_if_eq (tgt := 49) B dX6_weights_25 (by decide) (fun c4 => absurd c4 (by decide)) (fun _ => ?_)
  refine g_iload_n B dX6_weights_28 3 rfl ?_
  refine g_iconst (v := (0 : Int32)) B dX6_weights_29 (by decide) ?_
  refine g_bipush (v := (9 : Int32)) B dX6_weights_30 (by decide) ?_
  refine g_callP (g_runS B (PM.met (r_isIn_t l (D := D) (cI := cI) (cL := cL) (cZ := cZ) a3 (0 : Int32) (9 : Int32) (by first | assumption | exact hy (by assumption) | exact hz (by assumption)))) (gPp.pre (av := [.int a3, .int (0 : Int32), .int (9 : Int32)]) (wc := []) hK hN [] rfl (by decide)) gX6_weights_X6_isIn rfl kd_X6_isIn ⟨by decide, by decide⟩ (st := []) rfl (Nat.le_of_ble_eq_true rfl) dX6_weights_32 ⟨by decide, by decide⟩) (fun u hu => ?_)
  refine g_if_eq (tgt := 49) B dX6_weights_35 (by decide) (fun c6 => absurd c6 (by decide)) (fun _ => ?_)
  refine g_iload B dX6_weights_38 4 rfl ?_
  refine g_iconst (v := (0 : Int32)) B dX6_weights_40 (by decide) ?_
  refine g_bipush (v := (9 : Int32)) B dX6_weights_41 (by decide) ?_
  refine g_callP (g_runS B (PM.met (r_isIn_f l (D := D) (cI := cI) (cL := cL) (cZ := cZ) a4 (0 : Int32) (9 : Int32) (by first | assumption | exact hy (by assumption) | exact hz (by assumption)))) (gPp.pre (av := [.int a4, .int (0 : Int32), .int (9 : Int32)]) (wc := []) hK hN [] rfl (by decide)) gX6_weights_X6_isIn rfl kd_X6_isIn ⟨by decide, by decide⟩ (st := []) rfl (Nat.le_of_ble_eq_true rfl) dX6_weights_43 ⟨by decide, by decide⟩) (fun u hu => ?_)
  refine g_if_ne (tgt := 55) B dX6_weights_46 (by decide) (fun c8 => absurd (by decide) c8) (fun _ => ?_)
  refine g_aload_n B dX6_weights_49 0 rfl ?_
  refine g_iconst (v := (2 : Int32)) B dX6_weights_50 (by decide) ?_
  refine g_callW (w2 := (fun (_ : Unit) => [(hm, .inr (6, [.int (2 : Int32), .ref m1, .ref m2, .ref m3, .ref m4, .ref m5, .int dr, .ref m7, .int (0 : Int32), .ref m9, .ref m10, .ref m11, .ref m12, .ref m13, .int rl, .ref m15, .ref m16, .ref m17]))])) (g_runV (q0 := 0) (ci := 6) B hK rfl rfl (r_no l (D := D) (cI := cI) (cL := cL) (cZ := cZ) hm m1 m2 m3 m4 m5 m7 m9 m10 m11 m12 m13 m15 m16 m17 (0 : Int32) dr (0 : Int32) rl (2 : Int32) ) (gPw.pre (av := [.ref hm, .int (2 : Int32)]) (wc := [(hm, .inr (6, [.int (0 : Int32), .ref m1, .ref m2, .ref m3, .ref m4, .ref m5, .int dr, .ref m7, .int (0 : Int32), .ref m9, .ref m10, .ref m11, .ref m12, .ref m13, .int rl, .ref m15, .ref m16, .ref m17]))]) hK hN [0] rfl (by decide)) gX6_weights_X6_no rfl rfl kd_X6_no ⟨by decide, by decide⟩ (st := []) rfl (Nat.le_of_ble_eq_true rfl) dX6_weights_51 ⟨by decide, by decide⟩) hA (fun _ h => h) [0] [] (wr := []) rfl rfl (by decide) (by decide) [0] (by decide) (fun _ => rfl) (fun u hu => ?_)
  exact g_iret_w B hr rfl hlocks () (rfl) (trivial) [0] (by decide) rfl dX6_weights_54

set_option maxHeartbeats 4000000 in
set_option maxRecDepth 100000 in
theorem r_weights_v (l : Launch) {D : va_G} {cI cL cZ : ClassId} (hm : Nat) (m1 : Nat) (m2 : Nat) (m3 : Nat) (m4 : Nat) (m5 : Nat) (m7 : Nat) (m9 : Nat) (m10 : Nat) (m11 : Nat) (m12 : Nat) (m13 : Nat) (m15 : Nat) (m16 : Nat) (m17 : Nat) (th : Int32) (dr : Int32) (rl : Int32) (a1 : Nat) (a2 : Int32) (a3 : Int32) (a4 : Int32) (h1 : a1 < 4) (h2 : inR a2 0 9 = true) (h3 : inR a3 0 9 = true) (h4 : inR a4 0 9 = true) : WM l yX6_weights wsX6_weights ({ frames := 2, cells := 0, slots := 0, locals := 42 } : Room) D (gTys cI cL cZ) [.ref hm, .int (nI a1), .int a2, .int a3, .int a4] [(hm, .inr (6, [.int th, .ref m1, .ref m2, .ref m3, .ref m4, .ref m5, .int dr, .ref m7, .int (0 : Int32), .ref m9, .ref m10, .ref m11, .ref m12, .ref m13, .int rl, .ref m15, .ref m16, .ref m17])), (m7, .inl (cI, 12, .inl (fun _ => (1 : Int32))))] (fun (_ : Unit) => True) (fun (_ : Unit) => some (.int (3 : Int32))) (fun (_ : Unit) => [(hm, .inr (6, [.int (0 : Int32), .ref m1, .ref m2, .ref m3, .ref m4, .ref m5, .int dr, .ref m7, .int (0 : Int32), .ref m9, .ref m10, .ref m11, .ref m12, .ref m13, .int rl, .ref m15, .ref m16, .ref m17]))]) := by
  refine WM.ofG cX6_weights 6 (some .int) (by decide +kernel) rfl (Nat.le_of_ble_eq_true rfl) ?_
  intro p e s m below meth c A hA B hr hlocks hname hK hN
  refine g_aload_n B dX6_weights_0 0 rfl ?_
  refine g_iconst (v := (0 : Int32)) B dX6_weights_1 (by decide) ?_
  refine g_put (C := RX6) (T := TX6) (N := 18) (ci := 6) B hK hin_X6_weights_RX6 0 rfl rfl 0 (by decide) tyX6 tyX6_ok nmX6 (List.mem_of_getElem? (i := 1) rfl) rfl rfl (ty := .int) (v := .int (0 : Int32)) (by decide +kernel) rfl rfl (Nat.le_of_ble_eq_true rfl) (w2 := [(hm, .inr (6, [.int (0 : Int32), .ref m1, .ref m2, .ref m3, .ref m4, .ref m5, .int dr, .ref m7, .int (0 : Int32), .ref m9, .ref m10, .ref m11, .ref m12, .ref m13, .int rl, .ref m15, .ref m16, .ref m17])), (m7, .inl (cI, 12, .inl (fun _ => (1 : Int32))))]) rfl (fun _ h => h) dX6_weights_2 ?_
  refine g_iload_n B dX6_weights_5 1 rfl ?_
  refine g_callP (g_runS B (PM.met (r_isSlot_n l (D := D) (cI := cI) (cL := cL) (cZ := cZ) a1 (by omega))) (gPp.pre (av := [.int (nI a1)]) (wc := []) hK hN [] rfl (by decide)) gX6_weights_X6_isSlot rfl kd_X6_isSlot ⟨by decide, by decide⟩ (st := []) rfl (Nat.le_of_ble_eq_true rfl) dX6_weights_6 ⟨by decide, by decide⟩) (fun u hu => ?_)
  refine g_if_ne (tgt := 18) B dX6_weights_9 (by decide) (fun _ => ?_) (fun c2 => absurd c2 (by decide))
  refine g_iload_n B dX6_weights_18 2 rfl ?_
  refine g_iconst (v := (0 : Int32)) B dX6_weights_19 (by decide) ?_
  refine g_bipush (v := (9 : Int32)) B dX6_weights_20 (by decide) ?_
  refine g_callP (g_runS B (PM.met (r_isIn_t l (D := D) (cI := cI) (cL := cL) (cZ := cZ) a2 (0 : Int32) (9 : Int32) (by first | assumption | exact hy (by assumption) | exact hz (by assumption)))) (gPp.pre (av := [.int a2, .int (0 : Int32), .int (9 : Int32)]) (wc := []) hK hN [] rfl (by decide)) gX6_weights_X6_isIn rfl kd_X6_isIn ⟨by decide, by decide⟩ (st := []) rfl (Nat.le_of_ble_eq_true rfl) dX6_weights_22 ⟨by decide, by decide⟩) (fun u hu => ?_)
  refine g_if_eq (tgt := 49) B dX6_weights_25 (by decide) (fun c4 => absurd c4 (by decide)) (fun _ => ?_)
  refine g_iload_n B dX6_weights_28 3 rfl ?_
  refine g_iconst (v := (0 : Int32)) B dX6_weights_29 (by decide) ?_
  refine g_bipush (v := (9 : Int32)) B dX6_weights_30 (by decide) ?_
  refine g_callP (g_runS B (PM.met (r_isIn_t l (D := D) (cI := cI) (cL := cL) (cZ := cZ) a3 (0 : Int32) (9 : Int32) (by first | assumption | exact hy (by assumption) | exact hz (by assumption)))) (gPp.pre (av := [.int a3, .int (0 : Int32), .int (9 : Int32)]) (wc := []) hK hN [] rfl (by decide)) gX6_weights_X6_isIn rfl kd_X6_isIn ⟨by decide, by decide⟩ (st := []) rfl (Nat.le_of_ble_eq_true rfl) dX6_weights_32 ⟨by decide, by decide⟩) (fun u hu => ?_)
  refine g_if_eq (tgt := 49) B dX6_weights_35 (by decide) (fun c6 => absurd c6 (by decide)) (fun _ => ?_)
  refine g_iload B dX6_weights_38 4 rfl ?_
  refine g_iconst (v := (0 : Int32)) B dX6_weights_40 (by decide) ?_
  refine g_bipush (v := (9 : Int32)) B dX6_weights_41 (by decide) ?_
  refine g_callP (g_runS B (PM.met (r_isIn_t l (D := D) (cI := cI) (cL := cL) (cZ := cZ) a4 (0 : Int32) (9 : Int32) (by first | assumption | exact hy (by assumption) | exact hz (by assumption)))) (gPp.pre (av := [.int a4, .int (0 : Int32), .int (9 : Int32)]) (wc := []) hK hN [] rfl (by decide)) gX6_weights_X6_isIn rfl kd_X6_isIn ⟨by decide, by decide⟩ (st := []) rfl (Nat.le_of_ble_eq_true rfl) dX6_weights_43 ⟨by decide, by decide⟩) (fun u hu => ?_)
  refine g_if_ne (tgt := 55) B dX6_weights_46 (by decide) (fun _ => ?_) (fun c8 => absurd c8 (by decide))
  refine g_aload_n B dX6_weights_55 0 rfl ?_
  refine g_get (C := RX6) (T := TX6) (N := 18) (ci := 6) B hK hin_X6_weights_RX6 0 rfl rfl 7 (by decide) (List.mem_of_getElem? (i := 2) rfl) rfl (v := .ref m7) rfl dX6_weights_56 ?_
  refine g_iconst (v := (3 : Int32)) B dX6_weights_59 (by decide) ?_
  refine g_iload_n B dX6_weights_60 1 rfl ?_
  refine g_imul (v := nI (3 * a1)) B dX6_weights_61 (pk_mul 3 a1) ?_
  refine g_iald B hK 1 0 rfl rfl (3 * a1) rfl (by omega) (by omega) (v := (1 : Int32)) rfl dX6_weights_62 ?_
  refine g_aload_n B dX6_weights_63 0 rfl ?_
  refine g_get (C := RX6) (T := TX6) (N := 18) (ci := 6) B hK hin_X6_weights_RX6 0 rfl rfl 7 (by decide) (List.mem_of_getElem? (i := 2) rfl) rfl (v := .ref m7) rfl dX6_weights_64 ?_
  refine g_iconst (v := (3 : Int32)) B dX6_weights_67 (by decide) ?_
  refine g_iload_n B dX6_weights_68 1 rfl ?_
  refine g_imul (v := nI (3 * a1)) B dX6_weights_69 (pk_mul 3 a1) ?_
  refine g_iconst (v := (1 : Int32)) B dX6_weights_70 (by decide) ?_
  refine g_iadd (v := nI ((3 * a1) + 1)) B dX6_weights_71 (nI_add (3 * a1) 1) ?_
  refine g_iald B hK 1 0 rfl rfl ((3 * a1) + 1) rfl (by omega) (by omega) (v := (1 : Int32)) rfl dX6_weights_72 ?_
  refine g_iadd (v := (2 : Int32)) B dX6_weights_73 (by decide) ?_
  refine g_aload_n B dX6_weights_74 0 rfl ?_
  refine g_get (C := RX6) (T := TX6) (N := 18) (ci := 6) B hK hin_X6_weights_RX6 0 rfl rfl 7 (by decide) (List.mem_of_getElem? (i := 2) rfl) rfl (v := .ref m7) rfl dX6_weights_75 ?_
  refine g_iconst (v := (3 : Int32)) B dX6_weights_78 (by decide) ?_
  refine g_iload_n B dX6_weights_79 1 rfl ?_
  refine g_imul (v := nI (3 * a1)) B dX6_weights_80 (pk_mul 3 a1) ?_
  refine g_iconst (v := (2 : Int32)) B dX6_weights_81 (by decide) ?_
  refine g_iadd (v := nI ((3 * a1) + 2)) B dX6_weights_82 (nI_add (3 * a1) 2) ?_
  refine g_iald B hK 1 0 rfl rfl ((3 * a1) + 2) rfl (by omega) (by omega) (v := (1 : Int32)) rfl dX6_weights_83 ?_
  refine g_iadd (v := (3 : Int32)) B dX6_weights_84 (by decide) ?_
  refine g_istore (lv' := [(0, .ref hm), (1, .int (nI a1)), (2, .int a2), (3, .int a3), (4, .int a4), (5, .int (3 : Int32))]) B dX6_weights_85 (by decide) [1, 2, 3, 4, 5, 0] rfl ?_
  refine g_aload_n B dX6_weights_87 0 rfl ?_
  refine g_get (C := RX6) (T := TX6) (N := 18) (ci := 6) B hK hin_X6_weights_RX6 0 rfl rfl 7 (by decide) (List.mem_of_getElem? (i := 2) rfl) rfl (v := .ref m7) rfl dX6_weights_88 ?_
  refine g_iconst (v := (3 : Int32)) B dX6_weights_91 (by decide) ?_
  refine g_iload_n B dX6_weights_92 1 rfl ?_
  refine g_imul (v := nI (3 * a1)) B dX6_weights_93 (pk_mul 3 a1) ?_
  refine g_iload_n B dX6_weights_94 2 rfl ?_
  refine g_iast B hK 1 0 rfl rfl (3 * a1) rfl (by omega) (by omega) (f2 := (upd (fun _ => (1 : Int32)) (3 * a1) a2)) (rfl) (w2 := [(hm, .inr (6, [.int (0 : Int32), .ref m1, .ref m2, .ref m3, .ref m4, .ref m5, .int dr, .ref m7, .int (0 : Int32), .ref m9, .ref m10, .ref m11, .ref m12, .ref m13, .int rl, .ref m15, .ref m16, .ref m17])), (m7, .inl (cI, 12, .inl (upd (fun _ => (1 : Int32)) (3 * a1) a2)))]) rfl (fun _ h => h) dX6_weights_95 ?_
  refine g_aload_n B dX6_weights_96 0 rfl ?_
  refine g_get (C := RX6) (T := TX6) (N := 18) (ci := 6) B hK hin_X6_weights_RX6 0 rfl rfl 7 (by decide) (List.mem_of_getElem? (i := 2) rfl) rfl (v := .ref m7) rfl dX6_weights_97 ?_
  refine g_iconst (v := (3 : Int32)) B dX6_weights_100 (by decide) ?_
  refine g_iload_n B dX6_weights_101 1 rfl ?_
  refine g_imul (v := nI (3 * a1)) B dX6_weights_102 (pk_mul 3 a1) ?_
  refine g_iconst (v := (1 : Int32)) B dX6_weights_103 (by decide) ?_
  refine g_iadd (v := nI ((3 * a1) + 1)) B dX6_weights_104 (nI_add (3 * a1) 1) ?_
  refine g_iload_n B dX6_weights_105 3 rfl ?_
  refine g_iast B hK 1 0 rfl rfl ((3 * a1) + 1) rfl (by omega) (by omega) (f2 := (upd (upd (fun _ => (1 : Int32)) (3 * a1) a2) ((3 * a1) + 1) a3)) (rfl) (w2 := [(hm, .inr (6, [.int (0 : Int32), .ref m1, .ref m2, .ref m3, .ref m4, .ref m5, .int dr, .ref m7, .int (0 : Int32), .ref m9, .ref m10, .ref m11, .ref m12, .ref m13, .int rl, .ref m15, .ref m16, .ref m17])), (m7, .inl (cI, 12, .inl (upd (upd (fun _ => (1 : Int32)) (3 * a1) a2) ((3 * a1) + 1) a3)))]) rfl (fun _ h => h) dX6_weights_106 ?_
  refine g_aload_n B dX6_weights_107 0 rfl ?_
  refine g_get (C := RX6) (T := TX6) (N := 18) (ci := 6) B hK hin_X6_weights_RX6 0 rfl rfl 7 (by decide) (List.mem_of_getElem? (i := 2) rfl) rfl (v := .ref m7) rfl dX6_weights_108 ?_
  refine g_iconst (v := (3 : Int32)) B dX6_weights_111 (by decide) ?_
  refine g_iload_n B dX6_weights_112 1 rfl ?_
  refine g_imul (v := nI (3 * a1)) B dX6_weights_113 (pk_mul 3 a1) ?_
  refine g_iconst (v := (2 : Int32)) B dX6_weights_114 (by decide) ?_
  refine g_iadd (v := nI ((3 * a1) + 2)) B dX6_weights_115 (nI_add (3 * a1) 2) ?_
  refine g_iload B dX6_weights_116 4 rfl ?_
  refine g_iast B hK 1 0 rfl rfl ((3 * a1) + 2) rfl (by omega) (by omega) (f2 := (upd (upd (upd (fun _ => (1 : Int32)) (3 * a1) a2) ((3 * a1) + 1) a3) ((3 * a1) + 2) a4)) (rfl) (w2 := [(hm, .inr (6, [.int (0 : Int32), .ref m1, .ref m2, .ref m3, .ref m4, .ref m5, .int dr, .ref m7, .int (0 : Int32), .ref m9, .ref m10, .ref m11, .ref m12, .ref m13, .int rl, .ref m15, .ref m16, .ref m17])), (m7, .inl (cI, 12, .inl (upd (upd (upd (fun _ => (1 : Int32)) (3 * a1) a2) ((3 * a1) + 1) a3) ((3 * a1) + 2) a4)))]) rfl (fun _ h => h) dX6_weights_118 ?_
  refine g_iload B dX6_weights_119 5 rfl ?_
  exact g_iret_w B hr rfl hlocks () (rfl) (trivial) [0] (by decide) rfl dX6_weights_121

set_option maxHeartbeats 4000000 in
set_option maxRecDepth 100000 in
theorem r_draw_x0 (l : Launch) {D : va_G} {cI cL cZ : ClassId} (hm : Nat) (m1 : Nat) (m2 : Nat) (m3 : Nat) (m4 : Nat) (m5 : Nat) (m7 : Nat) (m9 : Nat) (m10 : Nat) (m11 : Nat) (m12 : Nat) (m13 : Nat) (m15 : Nat) (m16 : Nat) (m17 : Nat) (th : Int32) (rl : Int32) (a1 : Int32) (h1 : inR a1 0 9999 = false) : WM l yX6_draw wsX6_draw ({ frames := 1, cells := 0, slots := 0, locals := 22 } : Room) D (gTys cI cL cZ) [.ref hm, .int a1] [(hm, .inr (6, [.int th, .ref m1, .ref m2, .ref m3, .ref m4, .ref m5, .int (1 : Int32), .ref m7, .int (0 : Int32), .ref m9, .ref m10, .ref m11, .ref m12, .ref m13, .int rl, .ref m15, .ref m16, .ref m17]))] (fun (_ : Unit) => True) (fun (_ : Unit) => some (.int (0 : Int32))) (fun (_ : Unit) => [(hm, .inr (6, [.int (1 : Int32), .ref m1, .ref m2, .ref m3, .ref m4, .ref m5, .int (1 : Int32), .ref m7, .int (0 : Int32), .ref m9, .ref m10, .ref m11, .ref m12, .ref m13, .int rl, .ref m15, .ref m16, .ref m17]))]) := by
  refine WM.ofG cX6_draw 3 (some .int) (by decide +kernel) rfl (Nat.le_of_ble_eq_true rfl) ?_
  intro p e s m below meth c A hA B hr hlocks hname hK hN
  refine g_aload_n B dX6_draw_0 0 rfl ?_
  refine g_iconst (v := (0 : Int32)) B dX6_draw_1 (by decide) ?_
  refine g_put (C := RX6) (T := TX6) (N := 18) (ci := 6) B hK hin_X6_draw_RX6 0 rfl rfl 0 (by decide) tyX6 tyX6_ok nmX6 (List.mem_of_getElem? (i := 1) rfl) rfl rfl (ty := .int) (v := .int (0 : Int32)) (by decide +kernel) rfl rfl (Nat.le_of_ble_eq_true rfl) (w2 := [(hm, .inr (6, [.int (0 : Int32), .ref m1, .ref m2, .ref m3, .ref m4, .ref m5, .int (1 : Int32), .ref m7, .int (0 : Int32), .ref m9, .ref m10, .ref m11, .ref m12, .ref m13, .int rl, .ref m15, .ref m16, .ref m17]))]) rfl (fun _ h => h) dX6_draw_2 ?_
  refine g_iload_n B dX6_draw_5 1 rfl ?_
  refine g_iconst (v := (0 : Int32)) B dX6_draw_6 (by decide) ?_
  refine g_sipush (v := (9999 : Int32)) B dX6_draw_7 (by decide) ?_
  refine g_callP (g_runS B (PM.met (r_isIn_f l (D := D) (cI := cI) (cL := cL) (cZ := cZ) a1 (0 : Int32) (9999 : Int32) (by first | assumption | exact hy (by assumption) | exact hz (by assumption)))) (gPp.pre (av := [.int a1, .int (0 : Int32), .int (9999 : Int32)]) (wc := []) hK hN [] rfl (by decide)) gX6_draw_X6_isIn rfl kd_X6_isIn ⟨by decide, by decide⟩ (st := []) rfl (Nat.le_of_ble_eq_true rfl) dX6_draw_10 ⟨by decide, by decide⟩) (fun u hu => ?_)
  refine g_if_ne (tgt := 22) B dX6_draw_13 (by decide) (fun c2 => absurd (by decide) c2) (fun _ => ?_)
  refine g_aload_n B dX6_draw_16 0 rfl ?_
  refine g_iconst (v := (1 : Int32)) B dX6_draw_17 (by decide) ?_
  refine g_callW (w2 := (fun (_ : Unit) => [(hm, .inr (6, [.int (1 : Int32), .ref m1, .ref m2, .ref m3, .ref m4, .ref m5, .int (1 : Int32), .ref m7, .int (0 : Int32), .ref m9, .ref m10, .ref m11, .ref m12, .ref m13, .int rl, .ref m15, .ref m16, .ref m17]))])) (g_runV (q0 := 0) (ci := 6) B hK rfl rfl (r_no l (D := D) (cI := cI) (cL := cL) (cZ := cZ) hm m1 m2 m3 m4 m5 m7 m9 m10 m11 m12 m13 m15 m16 m17 (0 : Int32) (1 : Int32) (0 : Int32) rl (1 : Int32) ) (gPw.pre (av := [.ref hm, .int (1 : Int32)]) (wc := [(hm, .inr (6, [.int (0 : Int32), .ref m1, .ref m2, .ref m3, .ref m4, .ref m5, .int (1 : Int32), .ref m7, .int (0 : Int32), .ref m9, .ref m10, .ref m11, .ref m12, .ref m13, .int rl, .ref m15, .ref m16, .ref m17]))]) hK hN [0] rfl (by decide)) gX6_draw_X6_no rfl rfl kd_X6_no ⟨by decide, by decide⟩ (st := []) rfl (Nat.le_of_ble_eq_true rfl) dX6_draw_18 ⟨by decide, by decide⟩) hA (fun _ h => h) [0] [] (wr := []) rfl rfl (by decide) (by decide) [0] (by decide) (fun _ => rfl) (fun u hu => ?_)
  exact g_iret_w B hr rfl hlocks () (rfl) (trivial) [0] (by decide) rfl dX6_draw_21

set_option maxHeartbeats 4000000 in
set_option maxRecDepth 100000 in
theorem r_draw_v (l : Launch) {D : va_G} {cI cL cZ : ClassId} (hm : Nat) (m1 : Nat) (m2 : Nat) (m3 : Nat) (m4 : Nat) (m5 : Nat) (m7 : Nat) (m9 : Nat) (m10 : Nat) (m11 : Nat) (m12 : Nat) (m13 : Nat) (m15 : Nat) (m16 : Nat) (m17 : Nat) (th : Int32) (rl : Int32) (a1 : Int32) (h1 : inR a1 0 9999 = true) : WM l yX6_draw wsX6_draw ({ frames := 1, cells := 0, slots := 0, locals := 22 } : Room) D (gTys cI cL cZ) [.ref hm, .int a1] [(hm, .inr (6, [.int th, .ref m1, .ref m2, .ref m3, .ref m4, .ref m5, .int (1 : Int32), .ref m7, .int (0 : Int32), .ref m9, .ref m10, .ref m11, .ref m12, .ref m13, .int rl, .ref m15, .ref m16, .ref m17]))] (fun (_ : Unit) => True) (fun (_ : Unit) => some (.int (1 : Int32))) (fun (_ : Unit) => [(hm, .inr (6, [.int (0 : Int32), .ref m1, .ref m2, .ref m3, .ref m4, .ref m5, .int a1, .ref m7, .int (0 : Int32), .ref m9, .ref m10, .ref m11, .ref m12, .ref m13, .int rl, .ref m15, .ref m16, .ref m17]))]) := by
  refine WM.ofG cX6_draw 3 (some .int) (by decide +kernel) rfl (Nat.le_of_ble_eq_true rfl) ?_
  intro p e s m below meth c A hA B hr hlocks hname hK hN
  refine g_aload_n B dX6_draw_0 0 rfl ?_
  refine g_iconst (v := (0 : Int32)) B dX6_draw_1 (by decide) ?_
  refine g_put (C := RX6) (T := TX6) (N := 18) (ci := 6) B hK hin_X6_draw_RX6 0 rfl rfl 0 (by decide) tyX6 tyX6_ok nmX6 (List.mem_of_getElem? (i := 1) rfl) rfl rfl (ty := .int) (v := .int (0 : Int32)) (by decide +kernel) rfl rfl (Nat.le_of_ble_eq_true rfl) (w2 := [(hm, .inr (6, [.int (0 : Int32), .ref m1, .ref m2, .ref m3, .ref m4, .ref m5, .int (1 : Int32), .ref m7, .int (0 : Int32), .ref m9, .ref m10, .ref m11, .ref m12, .ref m13, .int rl, .ref m15, .ref m16, .ref m17]))]) rfl (fun _ h => h) dX6_draw_2 ?_
  refine g_iload_n B dX6_draw_5 1 rfl ?_
  refine g_iconst (v := (0 : Int32)) B dX6_draw_6 (by decide) ?_
  refine g_sipush (v := (9999 : Int32)) B dX6_draw_7 (by decide) ?_
  refine g_callP (g_runS B (PM.met (r_isIn_t l (D := D) (cI := cI) (cL := cL) (cZ := cZ) a1 (0 : Int32) (9999 : Int32) (by first | assumption | exact hy (by assumption) | exact hz (by assumption)))) (gPp.pre (av := [.int a1, .int (0 : Int32), .int (9999 : Int32)]) (wc := []) hK hN [] rfl (by decide)) gX6_draw_X6_isIn rfl kd_X6_isIn ⟨by decide, by decide⟩ (st := []) rfl (Nat.le_of_ble_eq_true rfl) dX6_draw_10 ⟨by decide, by decide⟩) (fun u hu => ?_)
  refine g_if_ne (tgt := 22) B dX6_draw_13 (by decide) (fun _ => ?_) (fun c2 => absurd c2 (by decide))
  refine g_aload_n B dX6_draw_22 0 rfl ?_
  refine g_get (C := RX6) (T := TX6) (N := 18) (ci := 6) B hK hin_X6_draw_RX6 0 rfl rfl 6 (by decide) (List.mem_of_getElem? (i := 2) rfl) rfl (v := .int (1 : Int32)) rfl dX6_draw_23 ?_
  refine g_istore_n (lv' := [(0, .ref hm), (1, .int a1), (2, .int (1 : Int32))]) B dX6_draw_26 rfl (by decide) [1, 2, 0] rfl ?_
  refine g_aload_n B dX6_draw_27 0 rfl ?_
  refine g_iload_n B dX6_draw_28 1 rfl ?_
  refine g_put (C := RX6) (T := TX6) (N := 18) (ci := 6) B hK hin_X6_draw_RX6 0 rfl rfl 6 (by decide) tyX6 tyX6_ok nmX6 (List.mem_of_getElem? (i := 2) rfl) rfl rfl (ty := .int) (v := .int a1) (by decide +kernel) rfl rfl (Nat.le_of_ble_eq_true rfl) (w2 := [(hm, .inr (6, [.int (0 : Int32), .ref m1, .ref m2, .ref m3, .ref m4, .ref m5, .int a1, .ref m7, .int (0 : Int32), .ref m9, .ref m10, .ref m11, .ref m12, .ref m13, .int rl, .ref m15, .ref m16, .ref m17]))]) rfl (fun _ h => h) dX6_draw_29 ?_
  refine g_iload_n B dX6_draw_32 2 rfl ?_
  exact g_iret_w B hr rfl hlocks () (rfl) (trivial) [0] (by decide) rfl dX6_draw_33

set_option maxHeartbeats 4000000 in
set_option maxRecDepth 100000 in
theorem r_generate_v (l : Launch) {D : va_G} {cI cL cZ : ClassId} (hm : Nat) (m1 : Nat) (m2 : Nat) (m3 : Nat) (m4 : Nat) (m5 : Nat) (m7 : Nat) (m9 : Nat) (m10 : Nat) (m11 : Nat) (m12 : Nat) (m13 : Nat) (m15 : Nat) (m16 : Nat) (m17 : Nat) (th : Int32) (rl : Int32)  : WM l yX6_generate wsX6_generate ({ frames := 6, cells := 4, slots := 66, locals := 137 } : Room) D (gTys cI cL cZ) [.ref hm] [(hm, .inr (6, [.int th, .ref m1, .ref m2, .ref m3, .ref m4, .ref m5, .int (1 : Int32), .ref m7, .int (0 : Int32), .ref m9, .ref m10, .ref m11, .ref m12, .ref m13, .int rl, .ref m15, .ref m16, .ref m17])), (m1, .inl (cI, 12, .inl (fun _ => (0 : Int32)))), (m2, .inl (cI, 12, .inl (fun _ => (0 : Int32)))), (m3, .inl (cI, 12, .inl (fun _ => (0 : Int32)))), (m4, .inl (cI, 24, .inl (fun _ => (-1 : Int32)))), (m5, .inl (cZ, 12, .inl (fun _ => (0 : Int32)))), (m7, .inl (cI, 12, .inl (fun _ => (1 : Int32)))), (m9, .inl (cI, 40, .inl (fun _ => (0 : Int32)))), (m10, .inl (cI, 40, .inl (fun _ => (0 : Int32)))), (m11, .inl (cI, 40, .inl (fun _ => (0 : Int32)))), (m12, .inl (cI, 40, .inl (fun _ => (0 : Int32)))), (m13, .inl (cZ, 40, .inl (fun _ => (0 : Int32))))] (fun (_ : Unit) => True) (fun (_ : Unit) => some (.int (7947 : Int32))) (fun (_ : Unit) => [(hm, .inr (6, [.int (0 : Int32), .ref m1, .ref m2, .ref m3, .ref m4, .ref m5, .int (9945 : Int32), .ref m7, .int (1 : Int32), .ref m9, .ref m10, .ref m11, .ref m12, .ref m13, .int rl, .ref m15, .ref m16, .ref m17]))]) := by
  refine WM.ofG cX6_generate 2 (some .int) (by decide +kernel) rfl (Nat.le_of_ble_eq_true rfl) ?_
  intro p e s m below meth c A hA B hr hlocks hname hK hN
  refine g_aload_n B dX6_generate_0 0 rfl ?_
  refine g_iconst (v := (0 : Int32)) B dX6_generate_1 (by decide) ?_
  refine g_put (C := RX6) (T := TX6) (N := 18) (ci := 6) B hK hin_X6_generate_RX6 0 rfl rfl 0 (by decide) tyX6 tyX6_ok nmX6 (List.mem_of_getElem? (i := 1) rfl) rfl rfl (ty := .int) (v := .int (0 : Int32)) (by decide +kernel) rfl rfl (Nat.le_of_ble_eq_true rfl) (w2 := [(hm, .inr (6, [.int (0 : Int32), .ref m1, .ref m2, .ref m3, .ref m4, .ref m5, .int (1 : Int32), .ref m7, .int (0 : Int32), .ref m9, .ref m10, .ref m11, .ref m12, .ref m13, .int rl, .ref m15, .ref m16, .ref m17])), (m1, .inl (cI, 12, .inl (fun _ => (0 : Int32)))), (m2, .inl (cI, 12, .inl (fun _ => (0 : Int32)))), (m3, .inl (cI, 12, .inl (fun _ => (0 : Int32)))), (m4, .inl (cI, 24, .inl (fun _ => (-1 : Int32)))), (m5, .inl (cZ, 12, .inl (fun _ => (0 : Int32)))), (m7, .inl (cI, 12, .inl (fun _ => (1 : Int32)))), (m9, .inl (cI, 40, .inl (fun _ => (0 : Int32)))), (m10, .inl (cI, 40, .inl (fun _ => (0 : Int32)))), (m11, .inl (cI, 40, .inl (fun _ => (0 : Int32)))), (m12, .inl (cI, 40, .inl (fun _ => (0 : Int32)))), (m13, .inl (cZ, 40, .inl (fun _ => (0 : Int32))))]) rfl (fun _ h => h) dX6_generate_2 ?_
  refine g_aload_n B dX6_generate_5 0 rfl ?_
  refine g_get (C := RX6) (T := TX6) (N := 18) (ci := 6) B hK hin_X6_generate_RX6 0 rfl rfl 8 (by decide) (List.mem_of_getElem? (i := 2) rfl) rfl (v := .int (0 : Int32)) rfl dX6_generate_6 ?_
  refine g_bipush (v := (40 : Int32)) B dX6_generate_9 (by decide) ?_
  refine g_icmp_ne (tgt := 20) B dX6_generate_11 (by decide) (fun _ => ?_) (fun c1 => absurd c1 (by decide))
  refine g_aload_n B dX6_generate_20 0 rfl ?_
  refine g_callW (w2 := (fun (_ : Unit) => [(hm, .inr (6, [.int (0 : Int32), .ref m1, .ref m2, .ref m3, .ref m4, .ref m5, .int (9945 : Int32), .ref m7, .int (0 : Int32), .ref m9, .ref m10, .ref m11, .ref m12, .ref m13, .int rl, .ref m15, .ref m16, .ref m17])), (m1, .inl (cI, 12, .inl (fun _ => (0 : Int32)))), (m2, .inl (cI, 12, .inl (fun _ => (0 : Int32)))), (m3, .inl (cI, 12, .inl (fun _ => (0 : Int32)))), (m4, .inl (cI, 24, .inl (fun _ => (-1 : Int32)))), (m5, .inl (cZ, 12, .inl (fun _ => (0 : Int32)))), (m7, .inl (cI, 12, .inl (fun _ => (1 : Int32)))), (m9, .inl (cI, 40, .inl (fun _ => (0 : Int32)))), (m10, .inl (cI, 40, .inl (fun _ => (0 : Int32)))), (m11, .inl (cI, 40, .inl (fun _ => (0 : Int32)))), (m12, .inl (cI, 40, .inl (fun _ => (0 : Int32)))), (m13, .inl (cZ, 40, .inl (fun _ => (0 : Int32))))])) (g_runV (q0 := 0) (ci := 6) B hK rfl rfl (r_make_1 l (D := D) (cI := cI) (cL := cL) (cZ := cZ) hm m1 m2 m3 m4 m5 m7 m9 m10 m11 m12 m13 m15 m16 m17 (0 : Int32) (0 : Int32) rl ) (gPw.pre (av := [.ref hm]) (wc := [(hm, .inr (6, [.int (0 : Int32), .ref m1, .ref m2, .ref m3, .ref m4, .ref m5, .int (1 : Int32), .ref m7, .int (0 : Int32), .ref m9, .ref m10, .ref m11, .ref m12, .ref m13, .int rl, .ref m15, .ref m16, .ref m17])), (m7, .inl (cI, 12, .inl (fun _ => (1 : Int32))))]) hK hN [0, 6] rfl (by decide)) gX6_generate_X6_make rfl rfl kd_X6_make ⟨by decide, by decide⟩ (st := []) rfl (Nat.le_of_ble_eq_true rfl) dX6_generate_21 ⟨by decide, by decide⟩) hA (fun _ h => h) [0, 6] [1, 2, 3, 4, 5, 7, 8, 9, 10, 11] (wr := [(m1, .inl (cI, 12, .inl (fun _ => (0 : Int32)))), (m2, .inl (cI, 12, .inl (fun _ => (0 : Int32)))), (m3, .inl (cI, 12, .inl (fun _ => (0 : Int32)))), (m4, .inl (cI, 24, .inl (fun _ => (-1 : Int32)))), (m5, .inl (cZ, 12, .inl (fun _ => (0 : Int32)))), (m9, .inl (cI, 40, .inl (fun _ => (0 : Int32)))), (m10, .inl (cI, 40, .inl (fun _ => (0 : Int32)))), (m11, .inl (cI, 40, .inl (fun _ => (0 : Int32)))), (m12, .inl (cI, 40, .inl (fun _ => (0 : Int32)))), (m13, .inl (cZ, 40, .inl (fun _ => (0 : Int32))))]) rfl rfl (by decide) (by decide) [10, 0, 1, 2, 3, 4, 11, 5, 6, 7, 8, 9] (by decide) (fun _ => rfl) (fun u hu => ?_)
  refine g_istore_n (lv' := [(0, .ref hm), (1, .int (7947 : Int32))]) B dX6_generate_24 rfl (by decide) [1, 0] rfl ?_
  refine g_aload_n B dX6_generate_25 0 rfl ?_
  refine g_iload_n B dX6_generate_26 1 rfl ?_
  refine g_callW (w2 := (fun (_ : Unit) => [(hm, .inr (6, [.int (0 : Int32), .ref m1, .ref m2, .ref m3, .ref m4, .ref m5, .int (9945 : Int32), .ref m7, .int (1 : Int32), .ref m9, .ref m10, .ref m11, .ref m12, .ref m13, .int rl, .ref m15, .ref m16, .ref m17])), (m7, .inl (cI, 12, .inl (fun _ => (1 : Int32))))])) (g_runV (q0 := 0) (ci := 6) B hK rfl rfl (r_tasteNow l (D := D) (cI := cI) (cL := cL) (cZ := cZ) hm m1 m2 m3 m4 m5 m7 m9 m10 m11 m12 m13 m15 m16 m17 (0 : Int32) (9945 : Int32) rl 7947 (by omega)) (gPw.pre (av := [.ref hm, .int (7947 : Int32)]) (wc := [(hm, .inr (6, [.int (0 : Int32), .ref m1, .ref m2, .ref m3, .ref m4, .ref m5, .int (9945 : Int32), .ref m7, .int (0 : Int32), .ref m9, .ref m10, .ref m11, .ref m12, .ref m13, .int rl, .ref m15, .ref m16, .ref m17])), (m1, .inl (cI, 12, .inl (fun _ => (0 : Int32)))), (m2, .inl (cI, 12, .inl (fun _ => (0 : Int32)))), (m3, .inl (cI, 12, .inl (fun _ => (0 : Int32)))), (m4, .inl (cI, 24, .inl (fun _ => (-1 : Int32)))), (m5, .inl (cZ, 12, .inl (fun _ => (0 : Int32)))), (m9, .inl (cI, 40, .inl (fun _ => (0 : Int32)))), (m10, .inl (cI, 40, .inl (fun _ => (0 : Int32)))), (m11, .inl (cI, 40, .inl (fun _ => (0 : Int32)))), (m12, .inl (cI, 40, .inl (fun _ => (0 : Int32)))), (m13, .inl (cZ, 40, .inl (fun _ => (0 : Int32))))]) hK hN [0, 1, 2, 3, 4, 5, 7, 8, 9, 10, 11] rfl (by decide)) gX6_generate_X6_tasteNow rfl rfl kd_X6_tasteNow ⟨by decide, by decide⟩ (st := []) rfl (Nat.le_of_ble_eq_true rfl) dX6_generate_27 ⟨by decide, by decide⟩) hA (fun _ h => h) [0, 1, 2, 3, 4, 5, 7, 8, 9, 10, 11] [6] (wr := [(m7, .inl (cI, 12, .inl (fun _ => (1 : Int32))))]) rfl rfl (by decide) (by decide) [1, 0] (by decide) (fun _ => rfl) (fun u hu => ?_)
  refine g_pop B dX6_generate_30 rfl ?_
  refine g_iload_n B dX6_generate_31 1 rfl ?_
  refine g_widen (k := 4) (n := 66) (by (try dsimp only); omega) (by (try dsimp only); omega) ?_
  exact g_iret_w B hr rfl hlocks () (rfl) (trivial) [0] (by decide) rfl dX6_generate_32

set_option maxHeartbeats 4000000 in
set_option maxRecDepth 100000 in
theorem r_mutate_v (l : Launch) {D : va_G} {cI cL cZ : ClassId} (hm : Nat) (m1 : Nat) (m2 : Nat) (m3 : Nat) (m4 : Nat) (m5 : Nat) (m7 : Nat) (m9 : Nat) (m10 : Nat) (m11 : Nat) (m12 : Nat) (m13 : Nat) (m15 : Nat) (m16 : Nat) (m17 : Nat) (th : Int32) (dr : Int32) (rl : Int32)  : WM l yX6_mutate wsX6_mutate ({ frames := 1, cells := 0, slots := 0, locals := 22 } : Room) D (gTys cI cL cZ) [.ref hm] [(hm, .inr (6, [.int th, .ref m1, .ref m2, .ref m3, .ref m4, .ref m5, .int dr, .ref m7, .int (0 : Int32), .ref m9, .ref m10, .ref m11, .ref m12, .ref m13, .int rl, .ref m15, .ref m16, .ref m17]))] (fun (_ : Unit) => True) (fun (_ : Unit) => some (.int (0 : Int32))) (fun (_ : Unit) => [(hm, .inr (6, [.int (1 : Int32), .ref m1, .ref m2, .ref m3, .ref m4, .ref m5, .int dr, .ref m7, .int (0 : Int32), .ref m9, .ref m10, .ref m11, .ref m12, .ref m13, .int rl, .ref m15, .ref m16, .ref m17]))]) := by
  refine WM.ofG cX6_mutate 4 (some .int) (by decide +kernel) rfl (Nat.le_of_ble_eq_true rfl) ?_
  intro p e s m below meth c A hA B hr hlocks hname hK hN
  refine g_aload_n B dX6_mutate_0 0 rfl ?_
  refine g_iconst (v := (0 : Int32)) B dX6_mutate_1 (by decide) ?_
  refine g_put (C := RX6) (T := TX6) (N := 18) (ci := 6) B hK hin_X6_mutate_RX6 0 rfl rfl 0 (by decide) tyX6 tyX6_ok nmX6 (List.mem_of_getElem? (i := 1) rfl) rfl rfl (ty := .int) (v := .int (0 : Int32)) (by decide +kernel) rfl rfl (Nat.le_of_ble_eq_true rfl) (w2 := [(hm, .inr (6, [.int (0 : Int32), .ref m1, .ref m2, .ref m3, .ref m4, .ref m5, .int dr, .ref m7, .int (0 : Int32), .ref m9, .ref m10, .ref m11, .ref m12, .ref m13, .int rl, .ref m15, .ref m16, .ref m17]))]) rfl (fun _ h => h) dX6_mutate_2 ?_
  refine g_aload_n B dX6_mutate_5 0 rfl ?_
  refine g_callP (g_runV (q0 := 0) (ci := 6) B hK rfl rfl (PM.met (r_kept_0 l (D := D) (cI := cI) (cL := cL) (cZ := cZ) hm m1 m2 m3 m4 m5 m7 m9 m10 m11 m12 m13 m15 m16 m17 (0 : Int32) dr rl )) (gPp.pre (av := [.ref hm]) (wc := [(hm, .inr (6, [.int (0 : Int32), .ref m1, .ref m2, .ref m3, .ref m4, .ref m5, .int dr, .ref m7, .int (0 : Int32), .ref m9, .ref m10, .ref m11, .ref m12, .ref m13, .int rl, .ref m15, .ref m16, .ref m17]))]) hK hN [0] rfl (by decide)) gX6_mutate_X6_kept rfl rfl kd_X6_kept ⟨by decide, by decide⟩ (st := []) rfl (Nat.le_of_ble_eq_true rfl) dX6_mutate_6 ⟨by decide, by decide⟩) (fun u hu => ?_)
  refine g_if_eq (tgt := 21) B dX6_mutate_9 (by decide) (fun _ => ?_) (fun c2 => absurd (by decide) c2)
  refine g_aload_n B dX6_mutate_21 0 rfl ?_
  refine g_iconst (v := (1 : Int32)) B dX6_mutate_22 (by decide) ?_
  refine g_callW (w2 := (fun (_ : Unit) => [(hm, .inr (6, [.int (1 : Int32), .ref m1, .ref m2, .ref m3, .ref m4, .ref m5, .int dr, .ref m7, .int (0 : Int32), .ref m9, .ref m10, .ref m11, .ref m12, .ref m13, .int rl, .ref m15, .ref m16, .ref m17]))])) (g_runV (q0 := 0) (ci := 6) B hK rfl rfl (r_no l (D := D) (cI := cI) (cL := cL) (cZ := cZ) hm m1 m2 m3 m4 m5 m7 m9 m10 m11 m12 m13 m15 m16 m17 (0 : Int32) dr (0 : Int32) rl (1 : Int32) ) (gPw.pre (av := [.ref hm, .int (1 : Int32)]) (wc := [(hm, .inr (6, [.int (0 : Int32), .ref m1, .ref m2, .ref m3, .ref m4, .ref m5, .int dr, .ref m7, .int (0 : Int32), .ref m9, .ref m10, .ref m11, .ref m12, .ref m13, .int rl, .ref m15, .ref m16, .ref m17]))]) hK hN [0] rfl (by decide)) gX6_mutate_X6_no rfl rfl kd_X6_no ⟨by decide, by decide⟩ (st := []) rfl (Nat.le_of_ble_eq_true rfl) dX6_mutate_23 ⟨by decide, by decide⟩) hA (fun _ h => h) [0] [] (wr := []) rfl rfl (by decide) (by decide) [0] (by decide) (fun _ => rfl) (fun u hu => ?_)
  exact g_iret_w B hr rfl hlocks () (rfl) (trivial) [0] (by decide) rfl dX6_mutate_26

set_option maxHeartbeats 4000000 in
set_option maxRecDepth 100000 in
theorem r_taste_x0 (l : Launch) {D : va_G} {cI cL cZ : ClassId} (hm : Nat) (m1 : Nat) (m2 : Nat) (m3 : Nat) (m4 : Nat) (m5 : Nat) (m7 : Nat) (m9 : Nat) (m10 : Nat) (m11 : Nat) (m12 : Nat) (m13 : Nat) (m15 : Nat) (m16 : Nat) (m17 : Nat) (th : Int32) (dr : Int32) (rl : Int32) (a1 : Int32) (h1 : inR a1 0 9999 = false) : WM l yX6_taste wsX6_taste ({ frames := 2, cells := 0, slots := 0, locals := 42 } : Room) D (gTys cI cL cZ) [.ref hm, .int a1] [(hm, .inr (6, [.int th, .ref m1, .ref m2, .ref m3, .ref m4, .ref m5, .int dr, .ref m7, .int (0 : Int32), .ref m9, .ref m10, .ref m11, .ref m12, .ref m13, .int rl, .ref m15, .ref m16, .ref m17]))] (fun (_ : Unit) => True) (fun (_ : Unit) => some (.int (0 : Int32))) (fun (_ : Unit) => [(hm, .inr (6, [.int (1 : Int32), .ref m1, .ref m2, .ref m3, .ref m4, .ref m5, .int dr, .ref m7, .int (0 : Int32), .ref m9, .ref m10, .ref m11, .ref m12, .ref m13, .int rl, .ref m15, .ref m16, .ref m17]))]) := by
  refine WM.ofG cX6_taste 2 (some .int) (by decide +kernel) rfl (Nat.le_of_ble_eq_true rfl) ?_
  intro p e s m below meth c A hA B hr hlocks hname hK hN
  refine g_aload_n B dX6_taste_0 0 rfl ?_
  refine g_iconst (v := (0 : Int32)) B dX6_taste_1 (by decide) ?_
  refine g_put (C := RX6) (T := TX6) (N := 18) (ci := 6) B hK hin_X6_taste_RX6 0 rfl rfl 0 (by decide) tyX6 tyX6_ok nmX6 (List.mem_of_getElem? (i := 1) rfl) rfl rfl (ty := .int) (v := .int (0 : Int32)) (by decide +kernel) rfl rfl (Nat.le_of_ble_eq_true rfl) (w2 := [(hm, .inr (6, [.int (0 : Int32), .ref m1, .ref m2, .ref m3, .ref m4, .ref m5, .int dr, .ref m7, .int (0 : Int32), .ref m9, .ref m10, .ref m11, .ref m12, .ref m13, .int rl, .ref m15, .ref m16, .ref m17]))]) rfl (fun _ h => h) dX6_taste_2 ?_
  refine g_iload_n B dX6_taste_5 1 rfl ?_
  refine g_callP (g_runS B (PM.met (r_isCase_f l (D := D) (cI := cI) (cL := cL) (cZ := cZ) a1 (by first | assumption | exact hy (by assumption) | exact hz (by assumption)))) (gPp.pre (av := [.int a1]) (wc := []) hK hN [] rfl (by decide)) gX6_taste_X6_isCase rfl kd_X6_isCase ⟨by decide, by decide⟩ (st := []) rfl (Nat.le_of_ble_eq_true rfl) dX6_taste_6 ⟨by decide, by decide⟩) (fun u hu => ?_)
  refine g_if_ne (tgt := 18) B dX6_taste_9 (by decide) (fun c2 => absurd (by decide) c2) (fun _ => ?_)
  refine g_aload_n B dX6_taste_12 0 rfl ?_
  refine g_iconst (v := (1 : Int32)) B dX6_taste_13 (by decide) ?_
  refine g_callW (w2 := (fun (_ : Unit) => [(hm, .inr (6, [.int (1 : Int32), .ref m1, .ref m2, .ref m3, .ref m4, .ref m5, .int dr, .ref m7, .int (0 : Int32), .ref m9, .ref m10, .ref m11, .ref m12, .ref m13, .int rl, .ref m15, .ref m16, .ref m17]))])) (g_runV (q0 := 0) (ci := 6) B hK rfl rfl (r_no l (D := D) (cI := cI) (cL := cL) (cZ := cZ) hm m1 m2 m3 m4 m5 m7 m9 m10 m11 m12 m13 m15 m16 m17 (0 : Int32) dr (0 : Int32) rl (1 : Int32) ) (gPw.pre (av := [.ref hm, .int (1 : Int32)]) (wc := [(hm, .inr (6, [.int (0 : Int32), .ref m1, .ref m2, .ref m3, .ref m4, .ref m5, .int dr, .ref m7, .int (0 : Int32), .ref m9, .ref m10, .ref m11, .ref m12, .ref m13, .int rl, .ref m15, .ref m16, .ref m17]))]) hK hN [0] rfl (by decide)) gX6_taste_X6_no rfl rfl kd_X6_no ⟨by decide, by decide⟩ (st := []) rfl (Nat.le_of_ble_eq_true rfl) dX6_taste_14 ⟨by decide, by decide⟩) hA (fun _ h => h) [0] [] (wr := []) rfl rfl (by decide) (by decide) [0] (by decide) (fun _ => rfl) (fun u hu => ?_)
  exact g_iret_w B hr rfl hlocks () (rfl) (trivial) [0] (by decide) rfl dX6_taste_17

set_option maxHeartbeats 4000000 in
set_option maxRecDepth 100000 in
theorem r_taste_v (l : Launch) {D : va_G} {cI cL cZ : ClassId} (hm : Nat) (m1 : Nat) (m2 : Nat) (m3 : Nat) (m4 : Nat) (m5 : Nat) (m7 : Nat) (m9 : Nat) (m10 : Nat) (m11 : Nat) (m12 : Nat) (m13 : Nat) (m15 : Nat) (m16 : Nat) (m17 : Nat) (th : Int32) (dr : Int32) (rl : Int32) (a1 : Nat) (h1 : a1 < 10000) : WM l yX6_taste wsX6_taste ({ frames := 6, cells := 4, slots := 66, locals := 137 } : Room) D (gTys cI cL cZ) [.ref hm, .int (nI a1)] [(hm, .inr (6, [.int th, .ref m1, .ref m2, .ref m3, .ref m4, .ref m5, .int dr, .ref m7, .int (0 : Int32), .ref m9, .ref m10, .ref m11, .ref m12, .ref m13, .int rl, .ref m15, .ref m16, .ref m17])), (m1, .inl (cI, 12, .inl (fun _ => (0 : Int32)))), (m2, .inl (cI, 12, .inl (fun _ => (0 : Int32)))), (m3, .inl (cI, 12, .inl (fun _ => (0 : Int32)))), (m4, .inl (cI, 24, .inl (fun _ => (-1 : Int32)))), (m5, .inl (cZ, 12, .inl (fun _ => (0 : Int32)))), (m9, .inl (cI, 40, .inl (fun _ => (0 : Int32)))), (m10, .inl (cI, 40, .inl (fun _ => (0 : Int32)))), (m11, .inl (cI, 40, .inl (fun _ => (0 : Int32)))), (m12, .inl (cI, 40, .inl (fun _ => (0 : Int32)))), (m13, .inl (cZ, 40, .inl (fun _ => (0 : Int32))))] (fun (_ : Unit) => True) (fun (_ : Unit) => some (.int (0 : Int32))) (fun (_ : Unit) => [(hm, .inr (6, [.int (0 : Int32), .ref m1, .ref m2, .ref m3, .ref m4, .ref m5, .int dr, .ref m7, .int (1 : Int32), .ref m9, .ref m10, .ref m11, .ref m12, .ref m13, .int rl, .ref m15, .ref m16, .ref m17]))]) := by
  refine WM.ofG cX6_taste 2 (some .int) (by decide +kernel) rfl (Nat.le_of_ble_eq_true rfl) ?_
  intro p e s m below meth c A hA B hr hlocks hname hK hN
  refine g_aload_n B dX6_taste_0 0 rfl ?_
  refine g_iconst (v := (0 : Int32)) B dX6_taste_1 (by decide) ?_
  refine g_put (C := RX6) (T := TX6) (N := 18) (ci := 6) B hK hin_X6_taste_RX6 0 rfl rfl 0 (by decide) tyX6 tyX6_ok nmX6 (List.mem_of_getElem? (i := 1) rfl) rfl rfl (ty := .int) (v := .int (0 : Int32)) (by decide +kernel) rfl rfl (Nat.le_of_ble_eq_true rfl) (w2 := [(hm, .inr (6, [.int (0 : Int32), .ref m1, .ref m2, .ref m3, .ref m4, .ref m5, .int dr, .ref m7, .int (0 : Int32), .ref m9, .ref m10, .ref m11, .ref m12, .ref m13, .int rl, .ref m15, .ref m16, .ref m17])), (m1, .inl (cI, 12, .inl (fun _ => (0 : Int32)))), (m2, .inl (cI, 12, .inl (fun _ => (0 : Int32)))), (m3, .inl (cI, 12, .inl (fun _ => (0 : Int32)))), (m4, .inl (cI, 24, .inl (fun _ => (-1 : Int32)))), (m5, .inl (cZ, 12, .inl (fun _ => (0 : Int32)))), (m9, .inl (cI, 40, .inl (fun _ => (0 : Int32)))), (m10, .inl (cI, 40, .inl (fun _ => (0 : Int32)))), (m11, .inl (cI, 40, .inl (fun _ => (0 : Int32)))), (m12, .inl (cI, 40, .inl (fun _ => (0 : Int32)))), (m13, .inl (cZ, 40, .inl (fun _ => (0 : Int32))))]) rfl (fun _ h => h) dX6_taste_2 ?_
  refine g_iload_n B dX6_taste_5 1 rfl ?_
  refine g_callP (g_runS B (PM.met (r_isCase_n l (D := D) (cI := cI) (cL := cL) (cZ := cZ) a1 (by omega))) (gPp.pre (av := [.int (nI a1)]) (wc := []) hK hN [] rfl (by decide)) gX6_taste_X6_isCase rfl kd_X6_isCase ⟨by decide, by decide⟩ (st := []) rfl (Nat.le_of_ble_eq_true rfl) dX6_taste_6 ⟨by decide, by decide⟩) (fun u hu => ?_)
  refine g_if_ne (tgt := 18) B dX6_taste_9 (by decide) (fun _ => ?_) (fun c2 => absurd c2 (by decide))
  refine g_aload_n B dX6_taste_18 0 rfl ?_
  refine g_get (C := RX6) (T := TX6) (N := 18) (ci := 6) B hK hin_X6_taste_RX6 0 rfl rfl 8 (by decide) (List.mem_of_getElem? (i := 2) rfl) rfl (v := .int (0 : Int32)) rfl dX6_taste_19 ?_
  refine g_bipush (v := (40 : Int32)) B dX6_taste_22 (by decide) ?_
  refine g_icmp_ne (tgt := 35) B dX6_taste_24 (by decide) (fun _ => ?_) (fun c3 => absurd c3 (by decide))
  refine g_aload_n B dX6_taste_35 0 rfl ?_
  refine g_iload_n B dX6_taste_36 1 rfl ?_
  refine g_callW (w2 := (fun (_ : Unit) => [(hm, .inr (6, [.int (0 : Int32), .ref m1, .ref m2, .ref m3, .ref m4, .ref m5, .int dr, .ref m7, .int (1 : Int32), .ref m9, .ref m10, .ref m11, .ref m12, .ref m13, .int rl, .ref m15, .ref m16, .ref m17]))])) (g_runV (q0 := 0) (ci := 6) B hK rfl rfl (r_tasteNow l (D := D) (cI := cI) (cL := cL) (cZ := cZ) hm m1 m2 m3 m4 m5 m7 m9 m10 m11 m12 m13 m15 m16 m17 (0 : Int32) dr rl a1 (by omega)) (gPw.pre (av := [.ref hm, .int (nI a1)]) (wc := [(hm, .inr (6, [.int (0 : Int32), .ref m1, .ref m2, .ref m3, .ref m4, .ref m5, .int dr, .ref m7, .int (0 : Int32), .ref m9, .ref m10, .ref m11, .ref m12, .ref m13, .int rl, .ref m15, .ref m16, .ref m17])), (m1, .inl (cI, 12, .inl (fun _ => (0 : Int32)))), (m2, .inl (cI, 12, .inl (fun _ => (0 : Int32)))), (m3, .inl (cI, 12, .inl (fun _ => (0 : Int32)))), (m4, .inl (cI, 24, .inl (fun _ => (-1 : Int32)))), (m5, .inl (cZ, 12, .inl (fun _ => (0 : Int32)))), (m9, .inl (cI, 40, .inl (fun _ => (0 : Int32)))), (m10, .inl (cI, 40, .inl (fun _ => (0 : Int32)))), (m11, .inl (cI, 40, .inl (fun _ => (0 : Int32)))), (m12, .inl (cI, 40, .inl (fun _ => (0 : Int32)))), (m13, .inl (cZ, 40, .inl (fun _ => (0 : Int32))))]) hK hN [0, 1, 2, 3, 4, 5, 6, 7, 8, 9, 10] rfl (by decide)) gX6_taste_X6_tasteNow rfl rfl kd_X6_tasteNow ⟨by decide, by decide⟩ (st := []) rfl (Nat.le_of_ble_eq_true rfl) dX6_taste_37 ⟨by decide, by decide⟩) hA (fun _ h => h) [0, 1, 2, 3, 4, 5, 6, 7, 8, 9, 10] [] (wr := []) rfl rfl (by decide) (by decide) [0] (by decide) (fun _ => rfl) (fun u hu => ?_)
  refine g_widen (k := 4) (n := 66) (by (try dsimp only); omega) (by (try dsimp only); omega) ?_
  exact g_iret_w B hr rfl hlocks () (rfl) (trivial) [0] (by decide) rfl dX6_taste_40

set_option maxHeartbeats 4000000 in
set_option maxRecDepth 100000 in
theorem r_ofKnown_v (l : Launch) {D : va_G} {cI cL cZ : ClassId} (hm : Nat) (m1 : Nat) (m2 : Nat) (m3 : Nat) (m4 : Nat) (m5 : Nat) (m7 : Nat) (m9 : Nat) (m10 : Nat) (m11 : Nat) (m12 : Nat) (m13 : Nat) (m15 : Nat) (m16 : Nat) (m17 : Nat) (th : Int32) (dr : Int32) (rl : Int32) (a1 : Int32) (a2 : Int32)  : WM l yX6_ofKnown wsX6_ofKnown ({ frames := 1, cells := 0, slots := 0, locals := 22 } : Room) D (gTys cI cL cZ) [.ref hm, .int a1, .int a2] [(hm, .inr (6, [.int th, .ref m1, .ref m2, .ref m3, .ref m4, .ref m5, .int dr, .ref m7, .int (0 : Int32), .ref m9, .ref m10, .ref m11, .ref m12, .ref m13, .int rl, .ref m15, .ref m16, .ref m17]))] (fun (_ : Unit) => True) (fun (_ : Unit) => some (.int (0 : Int32))) (fun (_ : Unit) => [(hm, .inr (6, [.int (1 : Int32), .ref m1, .ref m2, .ref m3, .ref m4, .ref m5, .int dr, .ref m7, .int (0 : Int32), .ref m9, .ref m10, .ref m11, .ref m12, .ref m13, .int rl, .ref m15, .ref m16, .ref m17]))]) := by
  refine WM.ofG cX6_ofKnown 3 (some .int) (by decide +kernel) rfl (Nat.le_of_ble_eq_true rfl) ?_
  intro p e s m below meth c A hA B hr hlocks hname hK hN
  refine g_aload_n B dX6_ofKnown_0 0 rfl ?_
  refine g_iconst (v := (0 : Int32)) B dX6_ofKnown_1 (by decide) ?_
  refine g_put (C := RX6) (T := TX6) (N := 18) (ci := 6) B hK hin_X6_ofKnown_RX6 0 rfl rfl 0 (by decide) tyX6 tyX6_ok nmX6 (List.mem_of_getElem? (i := 1) rfl) rfl rfl (ty := .int) (v := .int (0 : Int32)) (by decide +kernel) rfl rfl (Nat.le_of_ble_eq_true rfl) (w2 := [(hm, .inr (6, [.int (0 : Int32), .ref m1, .ref m2, .ref m3, .ref m4, .ref m5, .int dr, .ref m7, .int (0 : Int32), .ref m9, .ref m10, .ref m11, .ref m12, .ref m13, .int rl, .ref m15, .ref m16, .ref m17]))]) rfl (fun _ h => h) dX6_ofKnown_2 ?_
  refine g_iload_n B dX6_ofKnown_5 1 rfl ?_
  refine g_iconst (v := (0 : Int32)) B dX6_ofKnown_6 (by decide) ?_
  refine g_aload_n B dX6_ofKnown_7 0 rfl ?_
  refine g_get (C := RX6) (T := TX6) (N := 18) (ci := 6) B hK hin_X6_ofKnown_RX6 0 rfl rfl 8 (by decide) (List.mem_of_getElem? (i := 2) rfl) rfl (v := .int (0 : Int32)) rfl dX6_ofKnown_8 ?_
  refine g_iconst (v := (1 : Int32)) B dX6_ofKnown_11 (by decide) ?_
  refine g_isub (v := (-1 : Int32)) B dX6_ofKnown_12 (by decide) ?_
  refine g_callP (g_runS B (PM.met (r_isIn_e l (D := D) (cI := cI) (cL := cL) (cZ := cZ) a1 )) (gPp.pre (av := [.int a1, .int (0 : Int32), .int (-1 : Int32)]) (wc := []) hK hN [] rfl (by decide)) gX6_ofKnown_X6_isIn rfl kd_X6_isIn ⟨by decide, by decide⟩ (st := []) rfl (Nat.le_of_ble_eq_true rfl) dX6_ofKnown_13 ⟨by decide, by decide⟩) (fun u hu => ?_)
  refine g_if_ne (tgt := 25) B dX6_ofKnown_16 (by decide) (fun c2 => absurd (by decide) c2) (fun _ => ?_)
  refine g_aload_n B dX6_ofKnown_19 0 rfl ?_
  refine g_iconst (v := (1 : Int32)) B dX6_ofKnown_20 (by decide) ?_
  refine g_callW (w2 := (fun (_ : Unit) => [(hm, .inr (6, [.int (1 : Int32), .ref m1, .ref m2, .ref m3, .ref m4, .ref m5, .int dr, .ref m7, .int (0 : Int32), .ref m9, .ref m10, .ref m11, .ref m12, .ref m13, .int rl, .ref m15, .ref m16, .ref m17]))])) (g_runV (q0 := 0) (ci := 6) B hK rfl rfl (r_no l (D := D) (cI := cI) (cL := cL) (cZ := cZ) hm m1 m2 m3 m4 m5 m7 m9 m10 m11 m12 m13 m15 m16 m17 (0 : Int32) dr (0 : Int32) rl (1 : Int32) ) (gPw.pre (av := [.ref hm, .int (1 : Int32)]) (wc := [(hm, .inr (6, [.int (0 : Int32), .ref m1, .ref m2, .ref m3, .ref m4, .ref m5, .int dr, .ref m7, .int (0 : Int32), .ref m9, .ref m10, .ref m11, .ref m12, .ref m13, .int rl, .ref m15, .ref m16, .ref m17]))]) hK hN [0] rfl (by decide)) gX6_ofKnown_X6_no rfl rfl kd_X6_no ⟨by decide, by decide⟩ (st := []) rfl (Nat.le_of_ble_eq_true rfl) dX6_ofKnown_21 ⟨by decide, by decide⟩) hA (fun _ h => h) [0] [] (wr := []) rfl rfl (by decide) (by decide) [0] (by decide) (fun _ => rfl) (fun u hu => ?_)
  exact g_iret_w B hr rfl hlocks () (rfl) (trivial) [0] (by decide) rfl dX6_ofKnown_24

set_option maxHeartbeats 4000000 in
set_option maxRecDepth 100000 in
theorem r_ofEdgeNow_2 (l : Launch) {D : va_G} {cI cL cZ : ClassId} (hm : Nat) (m1 : Nat) (m2 : Nat) (m3 : Nat) (m4 : Nat) (m5 : Nat) (m7 : Nat) (m9 : Nat) (m10 : Nat) (m11 : Nat) (m12 : Nat) (m13 : Nat) (m15 : Nat) (m16 : Nat) (m17 : Nat) (th : Int32) (dr : Int32) (rl : Int32) (a1 : Int32)  : PM l yX6_ofEdgeNow wsX6_ofEdgeNow ({ frames := 0, cells := 0, slots := 0, locals := 0 } : Room) D (gTys cI cL cZ) [.ref hm, .int a1, .int (2 : Int32)] [(hm, .inr (6, [.int th, .ref m1, .ref m2, .ref m3, .ref m4, .ref m5, .int dr, .ref m7, .int (0 : Int32), .ref m9, .ref m10, .ref m11, .ref m12, .ref m13, .int rl, .ref m15, .ref m16, .ref m17]))] (fun (_ : Unit) => True) (fun (_ : Unit) => some (.int (-1 : Int32))) := by
  refine PM.ofG cX6_ofEdgeNow 6 (some .int) (by decide +kernel) rfl (Nat.le_of_ble_eq_true rfl) ?_
  intro p e s m below meth c B hr hlocks hname hK hN
  refine g_iconst (v := (0 : Int32)) B dX6_ofEdgeNow_0 (by decide) ?_
  refine g_istore_n (lv' := [(0, .ref hm), (1, .int a1), (2, .int (2 : Int32)), (3, .int (0 : Int32))]) B dX6_ofEdgeNow_1 rfl (by decide) [1, 2, 3, 0] rfl ?_
  refine g_iconst (v := (-1 : Int32)) B dX6_ofEdgeNow_2 (by decide) ?_
  refine g_istore (lv' := [(0, .ref hm), (1, .int a1), (2, .int (2 : Int32)), (3, .int (0 : Int32)), (4, .int (-1 : Int32))]) B dX6_ofEdgeNow_3 (by decide) [1, 2, 3, 4, 0] rfl ?_
  refine g_iconst (v := (0 : Int32)) B dX6_ofEdgeNow_5 (by decide) ?_
  refine g_istore (lv' := [(0, .ref hm), (1, .int a1), (2, .int (2 : Int32)), (3, .int (0 : Int32)), (4, .int (-1 : Int32)), (5, .int (0 : Int32))]) B dX6_ofEdgeNow_6 (by decide) [1, 2, 3, 4, 5, 0] rfl ?_
  refine g_iload B dX6_ofEdgeNow_8 5 rfl ?_
  refine g_aload_n B dX6_ofEdgeNow_10 0 rfl ?_
  refine g_get (C := RX6) (T := TX6) (N := 18) (ci := 6) B hK hin_X6_ofEdgeNow_RX6 0 rfl rfl 8 (by decide) (List.mem_of_getElem? (i := 1) rfl) rfl (v := .int (0 : Int32)) rfl dX6_ofEdgeNow_11 ?_
  refine g_icmp_ge (tgt := 78) B dX6_ofEdgeNow_14 (by decide) (fun _ => ?_) (fun c1 => absurd (by decide) c1)
  refine g_iload_n B dX6_ofEdgeNow_78 2 rfl ?_
  refine g_iconst (v := (2 : Int32)) B dX6_ofEdgeNow_79 (by decide) ?_
  refine g_icmp_ne (tgt := 88) B dX6_ofEdgeNow_80 (by decide) (fun c2 => absurd (by decide) c2) (fun _ => ?_)
  refine g_iload B dX6_ofEdgeNow_83 4 rfl ?_
  refine g_goto (tgt := 89) B dX6_ofEdgeNow_85 (by decide) ?_
  exact g_iret_p B hr rfl hlocks () (rfl) (trivial) dX6_ofEdgeNow_89

set_option maxHeartbeats 4000000 in
set_option maxRecDepth 100000 in
theorem r_ofEdgeNow_n (l : Launch) {D : va_G} {cI cL cZ : ClassId} (hm : Nat) (m1 : Nat) (m2 : Nat) (m3 : Nat) (m4 : Nat) (m5 : Nat) (m7 : Nat) (m9 : Nat) (m10 : Nat) (m11 : Nat) (m12 : Nat) (m13 : Nat) (m15 : Nat) (m16 : Nat) (m17 : Nat) (th : Int32) (dr : Int32) (rl : Int32) (a1 : Int32) (a2 : Int32) (h1 : ¬ a2 = 2) : PM l yX6_ofEdgeNow wsX6_ofEdgeNow ({ frames := 0, cells := 0, slots := 0, locals := 0 } : Room) D (gTys cI cL cZ) [.ref hm, .int a1, .int a2] [(hm, .inr (6, [.int th, .ref m1, .ref m2, .ref m3, .ref m4, .ref m5, .int dr, .ref m7, .int (0 : Int32), .ref m9, .ref m10, .ref m11, .ref m12, .ref m13, .int rl, .ref m15, .ref m16, .ref m17]))] (fun (_ : Unit) => True) (fun (_ : Unit) => some (.int (0 : Int32))) := by
  refine PM.ofG cX6_ofEdgeNow 6 (some .int) (by decide +kernel) rfl (Nat.le_of_ble_eq_true rfl) ?_
  intro p e s m below meth c B hr hlocks hname hK hN
  refine g_iconst (v := (0 : Int32)) B dX6_ofEdgeNow_0 (by decide) ?_
  refine g_istore_n (lv' := [(0, .ref hm), (1, .int a1), (2, .int a2), (3, .int (0 : Int32))]) B dX6_ofEdgeNow_1 rfl (by decide) [1, 2, 3, 0] rfl ?_
  refine g_iconst (v := (-1 : Int32)) B dX6_ofEdgeNow_2 (by decide) ?_
  refine g_istore (lv' := [(0, .ref hm), (1, .int a1), (2, .int a2), (3, .int (0 : Int32)), (4, .int (-1 : Int32))]) B dX6_ofEdgeNow_3 (by decide) [1, 2, 3, 4, 0] rfl ?_
  refine g_iconst (v := (0 : Int32)) B dX6_ofEdgeNow_5 (by decide) ?_
  refine g_istore (lv' := [(0, .ref hm), (1, .int a1), (2, .int a2), (3, .int (0 : Int32)), (4, .int (-1 : Int32)), (5, .int (0 : Int32))]) B dX6_ofEdgeNow_6 (by decide) [1, 2, 3, 4, 5, 0] rfl ?_
  refine g_iload B dX6_ofEdgeNow_8 5 rfl ?_
  refine g_aload_n B dX6_ofEdgeNow_10 0 rfl ?_
  refine g_get (C := RX6) (T := TX6) (N := 18) (ci := 6) B hK hin_X6_ofEdgeNow_RX6 0 rfl rfl 8 (by decide) (List.mem_of_getElem? (i := 1) rfl) rfl (v := .int (0 : Int32)) rfl dX6_ofEdgeNow_11 ?_
  refine g_icmp_ge (tgt := 78) B dX6_ofEdgeNow_14 (by decide) (fun _ => ?_) (fun c1 => absurd (by decide) c1)
  refine g_iload_n B dX6_ofEdgeNow_78 2 rfl ?_
  refine g_iconst (v := (2 : Int32)) B dX6_ofEdgeNow_79 (by decide) ?_
  refine g_icmp_ne (tgt := 88) B dX6_ofEdgeNow_80 (by decide) (fun c2 => ?_) (fun c2 => ?_)
  rotate_left; · exfalso; exact h1 c2
  refine g_iload_n B dX6_ofEdgeNow_88 3 rfl ?_
  exact g_iret_p B hr rfl hlocks () (rfl) (trivial) dX6_ofEdgeNow_89

set_option maxHeartbeats 4000000 in
set_option maxRecDepth 100000 in
theorem r_ofEdge_x0 (l : Launch) {D : va_G} {cI cL cZ : ClassId} (hm : Nat) (m1 : Nat) (m2 : Nat) (m3 : Nat) (m4 : Nat) (m5 : Nat) (m7 : Nat) (m9 : Nat) (m10 : Nat) (m11 : Nat) (m12 : Nat) (m13 : Nat) (m15 : Nat) (m16 : Nat) (m17 : Nat) (th : Int32) (dr : Int32) (rl : Int32) (a1 : Int32) (a2 : Int32) (h1 : inR a1 0 23 = false) : WM l yX6_ofEdge wsX6_ofEdge ({ frames := 1, cells := 0, slots := 0, locals := 22 } : Room) D (gTys cI cL cZ) [.ref hm, .int a1, .int a2] [(hm, .inr (6, [.int th, .ref m1, .ref m2, .ref m3, .ref m4, .ref m5, .int dr, .ref m7, .int (0 : Int32), .ref m9, .ref m10, .ref m11, .ref m12, .ref m13, .int rl, .ref m15, .ref m16, .ref m17]))] (fun (_ : Unit) => True) (fun (_ : Unit) => some (.int (0 : Int32))) (fun (_ : Unit) => [(hm, .inr (6, [.int (1 : Int32), .ref m1, .ref m2, .ref m3, .ref m4, .ref m5, .int dr, .ref m7, .int (0 : Int32), .ref m9, .ref m10, .ref m11, .ref m12, .ref m13, .int rl, .ref m15, .ref m16, .ref m17]))]) := by
  refine WM.ofG cX6_ofEdge 3 (some .int) (by decide +kernel) rfl (Nat.le_of_ble_eq_true rfl) ?_
  intro p e s m below meth c A hA B hr hlocks hname hK hN
  refine g_aload_n B dX6_ofEdge_0 0 rfl ?_
  refine g_iconst (v := (0 : Int32)) B dX6_ofEdge_1 (by decide) ?_
  refine g_put (C := RX6) (T := TX6) (N := 18) (ci := 6) B hK hin_X6_ofEdge_RX6 0 rfl rfl 0 (by decide) tyX6 tyX6_ok nmX6 (List.mem_of_getElem? (i := 1) rfl) rfl rfl (ty := .int) (v := .int (0 : Int32)) (by decide +kernel) rfl rfl (Nat.le_of_ble_eq_true rfl) (w2 := [(hm, .inr (6, [.int (0 : Int32), .ref m1, .ref m2, .ref m3, .ref m4, .ref m5, .int dr, .ref m7, .int (0 : Int32), .ref m9, .ref m10, .ref m11, .ref m12, .ref m13, .int rl, .ref m15, .ref m16, .ref m17]))]) rfl (fun _ h => h) dX6_ofEdge_2 ?_
  refine g_iload_n B dX6_ofEdge_5 1 rfl ?_
  refine g_iconst (v := (0 : Int32)) B dX6_ofEdge_6 (by decide) ?_
  refine g_bipush (v := (23 : Int32)) B dX6_ofEdge_7 (by decide) ?_
  refine g_callP (g_runS B (PM.met (r_isIn_f l (D := D) (cI := cI) (cL := cL) (cZ := cZ) a1 (0 : Int32) (23 : Int32) (by first | assumption | exact hy (by assumption) | exact hz (by assumption)))) (gPp.pre (av := [.int a1, .int (0 : Int32), .int (23 : Int32)]) (wc := []) hK hN [] rfl (by decide)) gX6_ofEdge_X6_isIn rfl kd_X6_isIn ⟨by decide, by decide⟩ (st := []) rfl (Nat.le_of_ble_eq_true rfl) dX6_ofEdge_9 ⟨by decide, by decide⟩) (fun u hu => ?_)
  refine g_if_ne (tgt := 21) B dX6_ofEdge_12 (by decide) (fun c2 => absurd (by decide) c2) (fun _ => ?_)
  refine g_aload_n B dX6_ofEdge_15 0 rfl ?_
  refine g_iconst (v := (1 : Int32)) B dX6_ofEdge_16 (by decide) ?_
  refine g_callW (w2 := (fun (_ : Unit) => [(hm, .inr (6, [.int (1 : Int32), .ref m1, .ref m2, .ref m3, .ref m4, .ref m5, .int dr, .ref m7, .int (0 : Int32), .ref m9, .ref m10, .ref m11, .ref m12, .ref m13, .int rl, .ref m15, .ref m16, .ref m17]))])) (g_runV (q0 := 0) (ci := 6) B hK rfl rfl (r_no l (D := D) (cI := cI) (cL := cL) (cZ := cZ) hm m1 m2 m3 m4 m5 m7 m9 m10 m11 m12 m13 m15 m16 m17 (0 : Int32) dr (0 : Int32) rl (1 : Int32) ) (gPw.pre (av := [.ref hm, .int (1 : Int32)]) (wc := [(hm, .inr (6, [.int (0 : Int32), .ref m1, .ref m2, .ref m3, .ref m4, .ref m5, .int dr, .ref m7, .int (0 : Int32), .ref m9, .ref m10, .ref m11, .ref m12, .ref m13, .int rl, .ref m15, .ref m16, .ref m17]))]) hK hN [0] rfl (by decide)) gX6_ofEdge_X6_no rfl rfl kd_X6_no ⟨by decide, by decide⟩ (st := []) rfl (Nat.le_of_ble_eq_true rfl) dX6_ofEdge_17 ⟨by decide, by decide⟩) hA (fun _ h => h) [0] [] (wr := []) rfl rfl (by decide) (by decide) [0] (by decide) (fun _ => rfl) (fun u hu => ?_)
  exact g_iret_w B hr rfl hlocks () (rfl) (trivial) [0] (by decide) rfl dX6_ofEdge_20

set_option maxHeartbeats 4000000 in
set_option maxRecDepth 100000 in
theorem r_ofEdge_v0 (l : Launch) {D : va_G} {cI cL cZ : ClassId} (hm : Nat) (m1 : Nat) (m2 : Nat) (m3 : Nat) (m4 : Nat) (m5 : Nat) (m7 : Nat) (m9 : Nat) (m10 : Nat) (m11 : Nat) (m12 : Nat) (m13 : Nat) (m15 : Nat) (m16 : Nat) (m17 : Nat) (th : Int32) (dr : Int32) (rl : Int32) (a1 : Nat) (h1 : a1 < 24) : WM l yX6_ofEdge wsX6_ofEdge ({ frames := 1, cells := 0, slots := 0, locals := 25 } : Room) D (gTys cI cL cZ) [.ref hm, .int (nI a1), .int (0 : Int32)] [(hm, .inr (6, [.int th, .ref m1, .ref m2, .ref m3, .ref m4, .ref m5, .int dr, .ref m7, .int (0 : Int32), .ref m9, .ref m10, .ref m11, .ref m12, .ref m13, .int rl, .ref m15, .ref m16, .ref m17]))] (fun (_ : Unit) => True) (fun (_ : Unit) => some (.int (0 : Int32))) (fun (_ : Unit) => [(hm, .inr (6, [.int (0 : Int32), .ref m1, .ref m2, .ref m3, .ref m4, .ref m5, .int dr, .ref m7, .int (0 : Int32), .ref m9, .ref m10, .ref m11, .ref m12, .ref m13, .int rl, .ref m15, .ref m16, .ref m17]))]) := by
  refine WM.ofG cX6_ofEdge 3 (some .int) (by decide +kernel) rfl (Nat.le_of_ble_eq_true rfl) ?_
  intro p e s m below meth c A hA B hr hlocks hname hK hN
  refine g_aload_n B dX6_ofEdge_0 0 rfl ?_
  refine g_iconst (v := (0 : Int32)) B dX6_ofEdge_1 (by decide) ?_
  refine g_put (C := RX6) (T := TX6) (N := 18) (ci := 6) B hK hin_X6_ofEdge_RX6 0 rfl rfl 0 (by decide) tyX6 tyX6_ok nmX6 (List.mem_of_getElem? (i := 1) rfl) rfl rfl (ty := .int) (v := .int (0 : Int32)) (by decide +kernel) rfl rfl (Nat.le_of_ble_eq_true rfl) (w2 := [(hm, .inr (6, [.int (0 : Int32), .ref m1, .ref m2, .ref m3, .ref m4, .ref m5, .int dr, .ref m7, .int (0 : Int32), .ref m9, .ref m10, .ref m11, .ref m12, .ref m13, .int rl, .ref m15, .ref m16, .ref m17]))]) rfl (fun _ h => h) dX6_ofEdge_2 ?_
  refine g_iload_n B dX6_ofEdge_5 1 rfl ?_
  refine g_iconst (v := (0 : Int32)) B dX6_ofEdge_6 (by decide) ?_
  refine g_bipush (v := (23 : Int32)) B dX6_ofEdge_7 (by decide) ?_
  refine g_callP (g_runS B (PM.met (r_isIn_n l (D := D) (cI := cI) (cL := cL) (cZ := cZ) a1 0 23 (by omega) (by omega) (by omega))) (gPp.pre (av := [.int (nI a1), .int (0 : Int32), .int (23 : Int32)]) (wc := []) hK hN [] rfl (by decide)) gX6_ofEdge_X6_isIn rfl kd_X6_isIn ⟨by decide, by decide⟩ (st := []) rfl (Nat.le_of_ble_eq_true rfl) dX6_ofEdge_9 ⟨by decide, by decide⟩) (fun u hu => ?_)
  refine g_if_ne (tgt := 21) B dX6_ofEdge_12 (by decide) (fun _ => ?_) (fun c2 => absurd c2 (by decide))
  refine g_iload_n B dX6_ofEdge_21 2 rfl ?_
  refine g_iconst (v := (0 : Int32)) B dX6_ofEdge_22 (by decide) ?_
  refine g_iconst (v := (2 : Int32)) B dX6_ofEdge_23 (by decide) ?_
  refine g_callP (g_runS B (PM.met (r_isIn_n l (D := D) (cI := cI) (cL := cL) (cZ := cZ) 0 0 2 (by omega) (by omega) (by omega))) (gPp.pre (av := [.int (0 : Int32), .int (0 : Int32), .int (2 : Int32)]) (wc := []) hK hN [] rfl (by decide)) gX6_ofEdge_X6_isIn rfl kd_X6_isIn ⟨by decide, by decide⟩ (st := []) rfl (Nat.le_of_ble_eq_true rfl) dX6_ofEdge_24 ⟨by decide, by decide⟩) (fun u hu => ?_)
  refine g_if_eq (tgt := 39) B dX6_ofEdge_27 (by decide) (fun c4 => absurd c4 (by decide)) (fun _ => ?_)
  refine g_aload_n B dX6_ofEdge_30 0 rfl ?_
  refine g_iload_n B dX6_ofEdge_31 1 rfl ?_
  refine g_iload_n B dX6_ofEdge_32 2 rfl ?_
  refine g_callP (g_runV (q0 := 0) (ci := 6) B hK rfl rfl (PM.met (r_ofEdgeNow_n l (D := D) (cI := cI) (cL := cL) (cZ := cZ) hm m1 m2 m3 m4 m5 m7 m9 m10 m11 m12 m13 m15 m16 m17 (0 : Int32) dr rl (nI a1) (0 : Int32) (by first | assumption | decide))) (gPp.pre (av := [.ref hm, .int (nI a1), .int (0 : Int32)]) (wc := [(hm, .inr (6, [.int (0 : Int32), .ref m1, .ref m2, .ref m3, .ref m4, .ref m5, .int dr, .ref m7, .int (0 : Int32), .ref m9, .ref m10, .ref m11, .ref m12, .ref m13, .int rl, .ref m15, .ref m16, .ref m17]))]) hK hN [0] rfl (by decide)) gX6_ofEdge_X6_ofEdgeNow rfl rfl kd_X6_ofEdgeNow ⟨by decide, by decide⟩ (st := []) rfl (Nat.le_of_ble_eq_true rfl) dX6_ofEdge_33 ⟨by decide, by decide⟩) (fun u hu => ?_)
  refine g_goto (tgt := 44) B dX6_ofEdge_36 (by decide) ?_
  exact g_iret_w B hr rfl hlocks () (rfl) (trivial) [0] (by decide) rfl dX6_ofEdge_44

set_option maxHeartbeats 4000000 in
set_option maxRecDepth 100000 in
theorem r_ofEdge_v1 (l : Launch) {D : va_G} {cI cL cZ : ClassId} (hm : Nat) (m1 : Nat) (m2 : Nat) (m3 : Nat) (m4 : Nat) (m5 : Nat) (m7 : Nat) (m9 : Nat) (m10 : Nat) (m11 : Nat) (m12 : Nat) (m13 : Nat) (m15 : Nat) (m16 : Nat) (m17 : Nat) (th : Int32) (dr : Int32) (rl : Int32) (a1 : Nat) (h1 : a1 < 24) : WM l yX6_ofEdge wsX6_ofEdge ({ frames := 1, cells := 0, slots := 0, locals := 25 } : Room) D (gTys cI cL cZ) [.ref hm, .int (nI a1), .int (1 : Int32)] [(hm, .inr (6, [.int th, .ref m1, .ref m2, .ref m3, .ref m4, .ref m5, .int dr, .ref m7, .int (0 : Int32), .ref m9, .ref m10, .ref m11, .ref m12, .ref m13, .int rl, .ref m15, .ref m16, .ref m17]))] (fun (_ : Unit) => True) (fun (_ : Unit) => some (.int (0 : Int32))) (fun (_ : Unit) => [(hm, .inr (6, [.int (0 : Int32), .ref m1, .ref m2, .ref m3, .ref m4, .ref m5, .int dr, .ref m7, .int (0 : Int32), .ref m9, .ref m10, .ref m11, .ref m12, .ref m13, .int rl, .ref m15, .ref m16, .ref m17]))]) := by
  refine WM.ofG cX6_ofEdge 3 (some .int) (by decide +kernel) rfl (Nat.le_of_ble_eq_true rfl) ?_
  intro p e s m below meth c A hA B hr hlocks hname hK hN
  refine g_aload_n B dX6_ofEdge_0 0 rfl ?_
  refine g_iconst (v := (0 : Int32)) B dX6_ofEdge_1 (by decide) ?_
  refine g_put (C := RX6) (T := TX6) (N := 18) (ci := 6) B hK hin_X6_ofEdge_RX6 0 rfl rfl 0 (by decide) tyX6 tyX6_ok nmX6 (List.mem_of_getElem? (i := 1) rfl) rfl rfl (ty := .int) (v := .int (0 : Int32)) (by decide +kernel) rfl rfl (Nat.le_of_ble_eq_true rfl) (w2 := [(hm, .inr (6, [.int (0 : Int32), .ref m1, .ref m2, .ref m3, .ref m4, .ref m5, .int dr, .ref m7, .int (0 : Int32), .ref m9, .ref m10, .ref m11, .ref m12, .ref m13, .int rl, .ref m15, .ref m16, .ref m17]))]) rfl (fun _ h => h) dX6_ofEdge_2 ?_
  refine g_iload_n B dX6_ofEdge_5 1 rfl ?_
  refine g_iconst (v := (0 : Int32)) B dX6_ofEdge_6 (by decide) ?_
  refine g_bipush (v := (23 : Int32)) B dX6_ofEdge_7 (by decide) ?_
  refine g_callP (g_runS B (PM.met (r_isIn_n l (D := D) (cI := cI) (cL := cL) (cZ := cZ) a1 0 23 (by omega) (by omega) (by omega))) (gPp.pre (av := [.int (nI a1), .int (0 : Int32), .int (23 : Int32)]) (wc := []) hK hN [] rfl (by decide)) gX6_ofEdge_X6_isIn rfl kd_X6_isIn ⟨by decide, by decide⟩ (st := []) rfl (Nat.le_of_ble_eq_true rfl) dX6_ofEdge_9 ⟨by decide, by decide⟩) (fun u hu => ?_)
  refine g_if_ne (tgt := 21) B dX6_ofEdge_12 (by decide) (fun _ => ?_) (fun c2 => absurd c2 (by decide))
  refine g_iload_n B dX6_ofEdge_21 2 rfl ?_
  refine g_iconst (v := (0 : Int32)) B dX6_ofEdge_22 (by decide) ?_
  refine g_iconst (v := (2 : Int32)) B dX6_ofEdge_23 (by decide) ?_
  refine g_callP (g_runS B (PM.met (r_isIn_n l (D := D) (cI := cI) (cL := cL) (cZ := cZ) 1 0 2 (by omega) (by omega) (by omega))) (gPp.pre (av := [.int (1 : Int32), .int (0 : Int32), .int (2 : Int32)]) (wc := []) hK hN [] rfl (by decide)) gX6_ofEdge_X6_isIn rfl kd_X6_isIn ⟨by decide, by decide⟩ (st := []) rfl (Nat.le_of_ble_eq_true rfl) dX6_ofEdge_24 ⟨by decide, by decide⟩) (fun u hu => ?_)
  refine g_if_eq (tgt := 39) B dX6_ofEdge_27 (by decide) (fun c4 => absurd c4 (by decide)) (fun _ => ?_)
  refine g_aload_n B dX6_ofEdge_30 0 rfl ?_
  refine g_iload_n B dX6_ofEdge_31 1 rfl ?_
  refine g_iload_n B dX6_ofEdge_32 2 rfl ?_
  refine g_callP (g_runV (q0 := 0) (ci := 6) B hK rfl rfl (PM.met (r_ofEdgeNow_n l (D := D) (cI := cI) (cL := cL) (cZ := cZ) hm m1 m2 m3 m4 m5 m7 m9 m10 m11 m12 m13 m15 m16 m17 (0 : Int32) dr rl (nI a1) (1 : Int32) (by first | assumption | decide))) (gPp.pre (av := [.ref hm, .int (nI a1), .int (1 : Int32)]) (wc := [(hm, .inr (6, [.int (0 : Int32), .ref m1, .ref m2, .ref m3, .ref m4, .ref m5, .int dr, .ref m7, .int (0 : Int32), .ref m9, .ref m10, .ref m11, .ref m12, .ref m13, .int rl, .ref m15, .ref m16, .ref m17]))]) hK hN [0] rfl (by decide)) gX6_ofEdge_X6_ofEdgeNow rfl rfl kd_X6_ofEdgeNow ⟨by decide, by decide⟩ (st := []) rfl (Nat.le_of_ble_eq_true rfl) dX6_ofEdge_33 ⟨by decide, by decide⟩) (fun u hu => ?_)
  refine g_goto (tgt := 44) B dX6_ofEdge_36 (by decide) ?_
  exact g_iret_w B hr rfl hlocks () (rfl) (trivial) [0] (by decide) rfl dX6_ofEdge_44

set_option maxHeartbeats 4000000 in
set_option maxRecDepth 100000 in
theorem r_ofEdge_v2 (l : Launch) {D : va_G} {cI cL cZ : ClassId} (hm : Nat) (m1 : Nat) (m2 : Nat) (m3 : Nat) (m4 : Nat) (m5 : Nat) (m7 : Nat) (m9 : Nat) (m10 : Nat) (m11 : Nat) (m12 : Nat) (m13 : Nat) (m15 : Nat) (m16 : Nat) (m17 : Nat) (th : Int32) (dr : Int32) (rl : Int32) (a1 : Nat) (h1 : a1 < 24) : WM l yX6_ofEdge wsX6_ofEdge ({ frames := 1, cells := 0, slots := 0, locals := 25 } : Room) D (gTys cI cL cZ) [.ref hm, .int (nI a1), .int (2 : Int32)] [(hm, .inr (6, [.int th, .ref m1, .ref m2, .ref m3, .ref m4, .ref m5, .int dr, .ref m7, .int (0 : Int32), .ref m9, .ref m10, .ref m11, .ref m12, .ref m13, .int rl, .ref m15, .ref m16, .ref m17]))] (fun (_ : Unit) => True) (fun (_ : Unit) => some (.int (-1 : Int32))) (fun (_ : Unit) => [(hm, .inr (6, [.int (0 : Int32), .ref m1, .ref m2, .ref m3, .ref m4, .ref m5, .int dr, .ref m7, .int (0 : Int32), .ref m9, .ref m10, .ref m11, .ref m12, .ref m13, .int rl, .ref m15, .ref m16, .ref m17]))]) := by
  refine WM.ofG cX6_ofEdge 3 (some .int) (by decide +kernel) rfl (Nat.le_of_ble_eq_true rfl) ?_
  intro p e s m below meth c A hA B hr hlocks hname hK hN
  refine g_aload_n B dX6_ofEdge_0 0 rfl ?_
  refine g_iconst (v := (0 : Int32)) B dX6_ofEdge_1 (by decide) ?_
  refine g_put (C := RX6) (T := TX6) (N := 18) (ci := 6) B hK hin_X6_ofEdge_RX6 0 rfl rfl 0 (by decide) tyX6 tyX6_ok nmX6 (List.mem_of_getElem? (i := 1) rfl) rfl rfl (ty := .int) (v := .int (0 : Int32)) (by decide +kernel) rfl rfl (Nat.le_of_ble_eq_true rfl) (w2 := [(hm, .inr (6, [.int (0 : Int32), .ref m1, .ref m2, .ref m3, .ref m4, .ref m5, .int dr, .ref m7, .int (0 : Int32), .ref m9, .ref m10, .ref m11, .ref m12, .ref m13, .int rl, .ref m15, .ref m16, .ref m17]))]) rfl (fun _ h => h) dX6_ofEdge_2 ?_
  refine g_iload_n B dX6_ofEdge_5 1 rfl ?_
  refine g_iconst (v := (0 : Int32)) B dX6_ofEdge_6 (by decide) ?_
  refine g_bipush (v := (23 : Int32)) B dX6_ofEdge_7 (by decide) ?_
  refine g_callP (g_runS B (PM.met (r_isIn_n l (D := D) (cI := cI) (cL := cL) (cZ := cZ) a1 0 23 (by omega) (by omega) (by omega))) (gPp.pre (av := [.int (nI a1), .int (0 : Int32), .int (23 : Int32)]) (wc := []) hK hN [] rfl (by decide)) gX6_ofEdge_X6_isIn rfl kd_X6_isIn ⟨by decide, by decide⟩ (st := []) rfl (Nat.le_of_ble_eq_true rfl) dX6_ofEdge_9 ⟨by decide, by decide⟩) (fun u hu => ?_)
  refine g_if_ne (tgt := 21) B dX6_ofEdge_12 (by decide) (fun _ => ?_) (fun c2 => absurd c2 (by decide))
  refine g_iload_n B dX6_ofEdge_21 2 rfl ?_
  refine g_iconst (v := (0 : Int32)) B dX6_ofEdge_22 (by decide) ?_
  refine g_iconst (v := (2 : Int32)) B dX6_ofEdge_23 (by decide) ?_
  refine g_callP (g_runS B (PM.met (r_isIn_n l (D := D) (cI := cI) (cL := cL) (cZ := cZ) 2 0 2 (by omega) (by omega) (by omega))) (gPp.pre (av := [.int (2 : Int32), .int (0 : Int32), .int (2 : Int32)]) (wc := []) hK hN [] rfl (by decide)) gX6_ofEdge_X6_isIn rfl kd_X6_isIn ⟨by decide, by decide⟩ (st := []) rfl (Nat.le_of_ble_eq_true rfl) dX6_ofEdge_24 ⟨by decide, by decide⟩) (fun u hu => ?_)
  refine g_if_eq (tgt := 39) B dX6_ofEdge_27 (by decide) (fun c4 => absurd c4 (by decide)) (fun _ => ?_)
  refine g_aload_n B dX6_ofEdge_30 0 rfl ?_
  refine g_iload_n B dX6_ofEdge_31 1 rfl ?_
  refine g_iload_n B dX6_ofEdge_32 2 rfl ?_
  refine g_callP (g_runV (q0 := 0) (ci := 6) B hK rfl rfl (PM.met (r_ofEdgeNow_2 l (D := D) (cI := cI) (cL := cL) (cZ := cZ) hm m1 m2 m3 m4 m5 m7 m9 m10 m11 m12 m13 m15 m16 m17 (0 : Int32) dr rl (nI a1) )) (gPp.pre (av := [.ref hm, .int (nI a1), .int (2 : Int32)]) (wc := [(hm, .inr (6, [.int (0 : Int32), .ref m1, .ref m2, .ref m3, .ref m4, .ref m5, .int dr, .ref m7, .int (0 : Int32), .ref m9, .ref m10, .ref m11, .ref m12, .ref m13, .int rl, .ref m15, .ref m16, .ref m17]))]) hK hN [0] rfl (by decide)) gX6_ofEdge_X6_ofEdgeNow rfl rfl kd_X6_ofEdgeNow ⟨by decide, by decide⟩ (st := []) rfl (Nat.le_of_ble_eq_true rfl) dX6_ofEdge_33 ⟨by decide, by decide⟩) (fun u hu => ?_)
  refine g_goto (tgt := 44) B dX6_ofEdge_36 (by decide) ?_
  exact g_iret_w B hr rfl hlocks () (rfl) (trivial) [0] (by decide) rfl dX6_ofEdge_44

set_option maxHeartbeats 4000000 in
set_option maxRecDepth 100000 in
theorem r_ofEdge_x1 (l : Launch) {D : va_G} {cI cL cZ : ClassId} (hm : Nat) (m1 : Nat) (m2 : Nat) (m3 : Nat) (m4 : Nat) (m5 : Nat) (m7 : Nat) (m9 : Nat) (m10 : Nat) (m11 : Nat) (m12 : Nat) (m13 : Nat) (m15 : Nat) (m16 : Nat) (m17 : Nat) (th : Int32) (dr : Int32) (rl : Int32) (a1 : Int32) (a2 : Int32) (h1 : inR a1 0 23 = true) (h2 : inR a2 0 2 = false) : WM l yX6_ofEdge wsX6_ofEdge ({ frames := 1, cells := 0, slots := 0, locals := 22 } : Room) D (gTys cI cL cZ) [.ref hm, .int a1, .int a2] [(hm, .inr (6, [.int th, .ref m1, .ref m2, .ref m3, .ref m4, .ref m5, .int dr, .ref m7, .int (0 : Int32), .ref m9, .ref m10, .ref m11, .ref m12, .ref m13, .int rl, .ref m15, .ref m16, .ref m17]))] (fun (_ : Unit) => True) (fun (_ : Unit) => some (.int (0 : Int32))) (fun (_ : Unit) => [(hm, .inr (6, [.int (2 : Int32), .ref m1, .ref m2, .ref m3, .ref m4, .ref m5, .int dr, .ref m7, .int (0 : Int32), .ref m9, .ref m10, .ref m11, .ref m12, .ref m13, .int rl, .ref m15, .ref m16, .ref m17]))]) := by
  refine WM.ofG cX6_ofEdge 3 (some .int) (by decide +kernel) rfl (Nat.le_of_ble_eq_true rfl) ?_
  intro p e s m below meth c A hA B hr hlocks hname hK hN
  refine g_aload_n B dX6_ofEdge_0 0 rfl ?_
  refine g_iconst (v := (0 : Int32)) B dX6_ofEdge_1 (by decide) ?_
  refine g_put (C := RX6) (T := TX6) (N := 18) (ci := 6) B hK hin_X6_ofEdge_RX6 0 rfl rfl 0 (by decide) tyX6 tyX6_ok nmX6 (List.mem_of_getElem? (i := 1) rfl) rfl rfl (ty := .int) (v := .int (0 : Int32)) (by decide +kernel) rfl rfl (Nat.le_of_ble_eq_true rfl) (w2 := [(hm, .inr (6, [.int (0 : Int32), .ref m1, .ref m2, .ref m3, .ref m4, .ref m5, .int dr, .ref m7, .int (0 : Int32), .ref m9, .ref m10, .ref m11, .ref m12, .ref m13, .int rl, .ref m15, .ref m16, .ref m17]))]) rfl (fun _ h => h) dX6_ofEdge_2 ?_
  refine g_iload_n B dX6_ofEdge_5 1 rfl ?_
  refine g_iconst (v := (0 : Int32)) B dX6_ofEdge_6 (by decide) ?_
  refine g_bipush (v := (23 : Int32)) B dX6_ofEdge_7 (by decide) ?_
  refine g_callP (g_runS B (PM.met (r_isIn_t l (D := D) (cI := cI) (cL := cL) (cZ := cZ) a1 (0 : Int32) (23 : Int32) (by first | assumption | exact hy (by assumption) | exact hz (by assumption)))) (gPp.pre (av := [.int a1, .int (0 : Int32), .int (23 : Int32)]) (wc := []) hK hN [] rfl (by decide)) gX6_ofEdge_X6_isIn rfl kd_X6_isIn ⟨by decide, by decide⟩ (st := []) rfl (Nat.le_of_ble_eq_true rfl) dX6_ofEdge_9 ⟨by decide, by decide⟩) (fun u hu => ?_)
  refine g_if_ne (tgt := 21) B dX6_ofEdge_12 (by decide) (fun _ => ?_) (fun c2 => absurd c2 (by decide))
  refine g_iload_n B dX6_ofEdge_21 2 rfl ?_
  refine g_iconst (v := (0 : Int32)) B dX6_ofEdge_22 (by decide) ?_
  refine g_iconst (v := (2 : Int32)) B dX6_ofEdge_23 (by decide) ?_
  refine g_callP (g_runS B (PM.met (r_isIn_f l (D := D) (cI := cI) (cL := cL) (cZ := cZ) a2 (0 : Int32) (2 : Int32) (by first | assumption | exact hy (by assumption) | exact hz (by assumption)))) (gPp.pre (av := [.int a2, .int (0 : Int32), .int (2 : Int32)]) (wc := []) hK hN [] rfl (by decide)) gX6_ofEdge_X6_isIn rfl kd_X6_isIn ⟨by decide, by decide⟩ (st := []) rfl (Nat.le_of_ble_eq_true rfl) dX6_ofEdge_24 ⟨by decide, by decide⟩) (fun u hu => ?_)
  refine g_if_eq (tgt := 39) B dX6_ofEdge_27 (by decide) (fun _ => ?_) (fun c4 => absurd (by decide) c4)
  refine g_aload_n B dX6_ofEdge_39 0 rfl ?_
  refine g_iconst (v := (2 : Int32)) B dX6_ofEdge_40 (by decide) ?_
  refine g_callW (w2 := (fun (_ : Unit) => [(hm, .inr (6, [.int (2 : Int32), .ref m1, .ref m2, .ref m3, .ref m4, .ref m5, .int dr, .ref m7, .int (0 : Int32), .ref m9, .ref m10, .ref m11, .ref m12, .ref m13, .int rl, .ref m15, .ref m16, .ref m17]))])) (g_runV (q0 := 0) (ci := 6) B hK rfl rfl (r_no l (D := D) (cI := cI) (cL := cL) (cZ := cZ) hm m1 m2 m3 m4 m5 m7 m9 m10 m11 m12 m13 m15 m16 m17 (0 : Int32) dr (0 : Int32) rl (2 : Int32) ) (gPw.pre (av := [.ref hm, .int (2 : Int32)]) (wc := [(hm, .inr (6, [.int (0 : Int32), .ref m1, .ref m2, .ref m3, .ref m4, .ref m5, .int dr, .ref m7, .int (0 : Int32), .ref m9, .ref m10, .ref m11, .ref m12, .ref m13, .int rl, .ref m15, .ref m16, .ref m17]))]) hK hN [0] rfl (by decide)) gX6_ofEdge_X6_no rfl rfl kd_X6_no ⟨by decide, by decide⟩ (st := []) rfl (Nat.le_of_ble_eq_true rfl) dX6_ofEdge_41 ⟨by decide, by decide⟩) hA (fun _ h => h) [0] [] (wr := []) rfl rfl (by decide) (by decide) [0] (by decide) (fun _ => rfl) (fun u hu => ?_)
  exact g_iret_w B hr rfl hlocks () (rfl) (trivial) [0] (by decide) rfl dX6_ofEdge_44

