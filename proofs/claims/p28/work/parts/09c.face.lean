/-! the class: its face, questions -/
theorem kd_J13_numberOfTrailingZeros_95d88 : yJ13_numberOfTrailingZeros_95d88.cls ≠ "java/lang/invoke/MethodHandle" ∧ yJ13_numberOfTrailingZeros_95d88.cls ≠ "java/lang/invoke/VarHandle" ∧ (parseMethodDescriptor yJ13_numberOfTrailingZeros_95d88.desc).map (fun d => d.parameters.length) = some 1 := by decide +kernel
theorem kd_J6_numberOfTrailingZeros_0f7a4 : yJ6_numberOfTrailingZeros_0f7a4.cls ≠ "java/lang/invoke/MethodHandle" ∧ yJ6_numberOfTrailingZeros_0f7a4.cls ≠ "java/lang/invoke/VarHandle" ∧ (parseMethodDescriptor yJ6_numberOfTrailingZeros_0f7a4.desc).map (fun d => d.parameters.length) = some 1 := by decide +kernel
theorem kd_X0_allKnown : yX0_allKnown.cls ≠ "java/lang/invoke/MethodHandle" ∧ yX0_allKnown.cls ≠ "java/lang/invoke/VarHandle" ∧ (parseMethodDescriptor yX0_allKnown.desc).map (fun d => d.parameters.length) = some 0 := by decide +kernel
theorem kd_X0_coverersOf : yX0_coverersOf.cls ≠ "java/lang/invoke/MethodHandle" ∧ yX0_coverersOf.cls ≠ "java/lang/invoke/VarHandle" ∧ (parseMethodDescriptor yX0_coverersOf.desc).map (fun d => d.parameters.length) = some 1 := by decide +kernel
theorem kd_X0_wholeEnergy : yX0_wholeEnergy.cls ≠ "java/lang/invoke/MethodHandle" ∧ yX0_wholeEnergy.cls ≠ "java/lang/invoke/VarHandle" ∧ (parseMethodDescriptor yX0_wholeEnergy.desc).map (fun d => d.parameters.length) = some 0 := by decide +kernel
theorem kd_X2_reachableNodes : yX2_reachableNodes.cls ≠ "java/lang/invoke/MethodHandle" ∧ yX2_reachableNodes.cls ≠ "java/lang/invoke/VarHandle" ∧ (parseMethodDescriptor yX2_reachableNodes.desc).map (fun d => d.parameters.length) = some 0 := by decide +kernel
theorem kd_X5_fewestFrom : yX5_fewestFrom.cls ≠ "java/lang/invoke/MethodHandle" ∧ yX5_fewestFrom.cls ≠ "java/lang/invoke/VarHandle" ∧ (parseMethodDescriptor yX5_fewestFrom.desc).map (fun d => d.parameters.length) = some 6 := by decide +kernel
theorem hin_X5_fewest_RX0 : ∀ z ∈ u_ws RX0 TX0 6, z ∈ wsX5_fewest := by decide +kernel
theorem hin_X5_fewest_RX5 : ∀ z ∈ u_ws RX5 TX5 5, z ∈ wsX5_fewest := by decide +kernel
theorem hin_X5_many_RX0 : ∀ z ∈ u_ws RX0 TX0 6, z ∈ wsX5_many := by decide +kernel
theorem hin_X5_many_RX1 : ∀ z ∈ u_ws RX1 TX1 4, z ∈ wsX5_many := by decide +kernel
theorem hin_X5_many_RX3 : ∀ z ∈ u_ws RX3 TX3 4, z ∈ wsX5_many := by decide +kernel
theorem hin_X5_many_RX5 : ∀ z ∈ u_ws RX5 TX5 5, z ∈ wsX5_many := by decide +kernel
theorem hin_X5_meanEnergy_RX0 : ∀ z ∈ u_ws RX0 TX0 6, z ∈ wsX5_meanEnergy := by decide +kernel
theorem hin_X5_meanEnergy_RX5 : ∀ z ∈ u_ws RX5 TX5 5, z ∈ wsX5_meanEnergy := by decide +kernel
theorem hin_X5_ofEdge_RX0 : ∀ z ∈ u_ws RX0 TX0 6, z ∈ wsX5_ofEdge := by decide +kernel
theorem hin_X5_ofEdge_RX5 : ∀ z ∈ u_ws RX5 TX5 5, z ∈ wsX5_ofEdge := by decide +kernel
theorem hin_X5_ofKnown_RX0 : ∀ z ∈ u_ws RX0 TX0 6, z ∈ wsX5_ofKnown := by decide +kernel
theorem hin_X5_ofKnown_RX5 : ∀ z ∈ u_ws RX5 TX5 5, z ∈ wsX5_ofKnown := by decide +kernel
set_option maxHeartbeats 4000000 in
set_option maxRecDepth 100000 in
theorem k_tzI (l : Launch) {D : va_G} {cI cL cZ cQ : ClassId} (x : Int32)  : PM l yJ6_numberOfTrailingZeros_0f7a4 wsJ6_numberOfTrailingZeros_0f7a4 ({ frames := 0, cells := 0, slots := 0, locals := 0 } : Room) D (gTys cI cL cZ cQ) [.int x] [] (fun (_ : Unit) => True) (fun (_ : Unit) => some (.int (ks_tzI x))) := by
  refine PM.ofG cJ6_numberOfTrailingZeros_0f7a4 2 (some .int) (by decide +kernel) rfl (Nat.le_of_ble_eq_true rfl) ?_
  intro p e s m below meth c B hr hlocks hname hK hN
  refine g_iload_n B dJ6_numberOfTrailingZeros_0f7a4_0 0 rfl ?_
  refine g_iconst (v := (-1 : Int32)) B dJ6_numberOfTrailingZeros_0f7a4_1 (by decide) ?_
  refine g_ixor (v := (x ^^^ (-1 : Int32))) B dJ6_numberOfTrailingZeros_0f7a4_2 (rfl) ?_
  refine g_iload_n B dJ6_numberOfTrailingZeros_0f7a4_3 0 rfl ?_
  refine g_iconst (v := (1 : Int32)) B dJ6_numberOfTrailingZeros_0f7a4_4 (by decide) ?_
  refine g_isub (v := (x - (1 : Int32))) B dJ6_numberOfTrailingZeros_0f7a4_5 (rfl) ?_
  refine g_iand (v := ((x ^^^ (-1 : Int32)) &&& (x - (1 : Int32)))) B dJ6_numberOfTrailingZeros_0f7a4_6 (rfl) ?_
  refine g_eqi (y := tz_1 x) rfl ?_
  refine g_istore_n (lv' := [(0, .int (tz_1 x))]) B dJ6_numberOfTrailingZeros_0f7a4_7 rfl (by decide) [0] rfl ?_
  refine g_iload_n B dJ6_numberOfTrailingZeros_0f7a4_8 0 rfl ?_
  refine g_if_gt (tgt := 17) B dJ6_numberOfTrailingZeros_0f7a4_9 (by decide) (fun c1 => ?_) (fun c1 => ?_)
  · refine g_iconst (v := (1 : Int32)) B dJ6_numberOfTrailingZeros_0f7a4_17 (by decide) ?_
    refine g_istore_n (lv' := [(0, .int (tz_1 x)), (1, .int (1 : Int32))]) B dJ6_numberOfTrailingZeros_0f7a4_18 rfl (by decide) [1, 0] rfl ?_
    refine g_iload_n B dJ6_numberOfTrailingZeros_0f7a4_19 0 rfl ?_
    refine g_ldc_w (v := (65536 : Int32)) B dJ6_numberOfTrailingZeros_0f7a4_20 (List.mem_of_getElem? (i := 1) rfl) ?_
    refine g_icmp_le (tgt := 34) B dJ6_numberOfTrailingZeros_0f7a4_23 (by decide) (fun c2 => ?_) (fun c2 => ?_)
    · refine g_iload_n B dJ6_numberOfTrailingZeros_0f7a4_34 0 rfl ?_
      refine g_sipush (v := (256 : Int32)) B dJ6_numberOfTrailingZeros_0f7a4_35 (by decide) ?_
      refine g_icmp_le (tgt := 49) B dJ6_numberOfTrailingZeros_0f7a4_38 (by decide) (fun c3 => ?_) (fun c3 => ?_)
      · refine g_iload_n B dJ6_numberOfTrailingZeros_0f7a4_49 0 rfl ?_
        refine g_bipush (v := (16 : Int32)) B dJ6_numberOfTrailingZeros_0f7a4_50 (by decide) ?_
        refine g_icmp_le (tgt := 62) B dJ6_numberOfTrailingZeros_0f7a4_52 (by decide) (fun c4 => ?_) (fun c4 => ?_)
        · refine g_iload_n B dJ6_numberOfTrailingZeros_0f7a4_62 0 rfl ?_
          refine g_iconst (v := (4 : Int32)) B dJ6_numberOfTrailingZeros_0f7a4_63 (by decide) ?_
          refine g_icmp_le (tgt := 74) B dJ6_numberOfTrailingZeros_0f7a4_64 (by decide) (fun c5 => ?_) (fun c5 => ?_)
          · refine g_iload_n B dJ6_numberOfTrailingZeros_0f7a4_74 1 rfl ?_
            refine g_iload_n B dJ6_numberOfTrailingZeros_0f7a4_75 0 rfl ?_
            refine g_iconst (v := (1 : Int32)) B dJ6_numberOfTrailingZeros_0f7a4_76 (by decide) ?_
            refine g_iushr (v := (iShr (tz_1 x) (1 : Int32))) B dJ6_numberOfTrailingZeros_0f7a4_77 rfl ?_
            refine g_iadd (v := ((1 : Int32) + (iShr (tz_1 x) (1 : Int32)))) B dJ6_numberOfTrailingZeros_0f7a4_78 (rfl) ?_
            exact g_iret_p B hr rfl hlocks () (by simp [ks_tzI, tz_a, tz_b, tz_c, tz_d, c1, c2, c3, c4, c5]) (trivial) dJ6_numberOfTrailingZeros_0f7a4_79
          · refine g_iinc (lv' := [(0, .int (tz_1 x)), (1, .int (3 : Int32))]) B dJ6_numberOfTrailingZeros_0f7a4_67 1 rfl (by decide) (by decide) [1, 0] rfl ?_
            refine g_iload_n B dJ6_numberOfTrailingZeros_0f7a4_70 0 rfl ?_
            refine g_iconst (v := (2 : Int32)) B dJ6_numberOfTrailingZeros_0f7a4_71 (by decide) ?_
            refine g_iushr (v := (iShr (tz_1 x) (2 : Int32))) B dJ6_numberOfTrailingZeros_0f7a4_72 rfl ?_
            refine g_istore_n (lv' := [(0, .int (iShr (tz_1 x) (2 : Int32))), (1, .int (3 : Int32))]) B dJ6_numberOfTrailingZeros_0f7a4_73 rfl (by decide) [0, 1] rfl ?_
            refine g_iload_n B dJ6_numberOfTrailingZeros_0f7a4_74 1 rfl ?_
            refine g_iload_n B dJ6_numberOfTrailingZeros_0f7a4_75 0 rfl ?_
            refine g_iconst (v := (1 : Int32)) B dJ6_numberOfTrailingZeros_0f7a4_76 (by decide) ?_
            refine g_iushr (v := (iShr (iShr (tz_1 x) (2 : Int32)) (1 : Int32))) B dJ6_numberOfTrailingZeros_0f7a4_77 rfl ?_
            refine g_iadd (v := ((3 : Int32) + (iShr (iShr (tz_1 x) (2 : Int32)) (1 : Int32)))) B dJ6_numberOfTrailingZeros_0f7a4_78 (rfl) ?_
            exact g_iret_p B hr rfl hlocks () (by simp [ks_tzI, tz_a, tz_b, tz_c, tz_d, c1, c2, c3, c4, c5]) (trivial) dJ6_numberOfTrailingZeros_0f7a4_79
        · refine g_iinc (lv' := [(0, .int (tz_1 x)), (1, .int (5 : Int32))]) B dJ6_numberOfTrailingZeros_0f7a4_55 1 rfl (by decide) (by decide) [1, 0] rfl ?_
          refine g_iload_n B dJ6_numberOfTrailingZeros_0f7a4_58 0 rfl ?_
          refine g_iconst (v := (4 : Int32)) B dJ6_numberOfTrailingZeros_0f7a4_59 (by decide) ?_
          refine g_iushr (v := (iShr (tz_1 x) (4 : Int32))) B dJ6_numberOfTrailingZeros_0f7a4_60 rfl ?_
          refine g_istore_n (lv' := [(0, .int (iShr (tz_1 x) (4 : Int32))), (1, .int (5 : Int32))]) B dJ6_numberOfTrailingZeros_0f7a4_61 rfl (by decide) [0, 1] rfl ?_
          refine g_iload_n B dJ6_numberOfTrailingZeros_0f7a4_62 0 rfl ?_
          refine g_iconst (v := (4 : Int32)) B dJ6_numberOfTrailingZeros_0f7a4_63 (by decide) ?_
          refine g_icmp_le (tgt := 74) B dJ6_numberOfTrailingZeros_0f7a4_64 (by decide) (fun c6 => ?_) (fun c6 => ?_)
          · refine g_iload_n B dJ6_numberOfTrailingZeros_0f7a4_74 1 rfl ?_
            refine g_iload_n B dJ6_numberOfTrailingZeros_0f7a4_75 0 rfl ?_
            refine g_iconst (v := (1 : Int32)) B dJ6_numberOfTrailingZeros_0f7a4_76 (by decide) ?_
            refine g_iushr (v := (iShr (iShr (tz_1 x) (4 : Int32)) (1 : Int32))) B dJ6_numberOfTrailingZeros_0f7a4_77 rfl ?_
            refine g_iadd (v := ((5 : Int32) + (iShr (iShr (tz_1 x) (4 : Int32)) (1 : Int32)))) B dJ6_numberOfTrailingZeros_0f7a4_78 (rfl) ?_
            exact g_iret_p B hr rfl hlocks () (by simp [ks_tzI, tz_a, tz_b, tz_c, tz_d, c1, c2, c3, c4, c6]) (trivial) dJ6_numberOfTrailingZeros_0f7a4_79
          · refine g_iinc (lv' := [(0, .int (iShr (tz_1 x) (4 : Int32))), (1, .int (7 : Int32))]) B dJ6_numberOfTrailingZeros_0f7a4_67 1 rfl (by decide) (by decide) [1, 0] rfl ?_
            refine g_iload_n B dJ6_numberOfTrailingZeros_0f7a4_70 0 rfl ?_
            refine g_iconst (v := (2 : Int32)) B dJ6_numberOfTrailingZeros_0f7a4_71 (by decide) ?_
            refine g_iushr (v := (iShr (iShr (tz_1 x) (4 : Int32)) (2 : Int32))) B dJ6_numberOfTrailingZeros_0f7a4_72 rfl ?_
            refine g_istore_n (lv' := [(0, .int (iShr (iShr (tz_1 x) (4 : Int32)) (2 : Int32))), (1, .int (7 : Int32))]) B dJ6_numberOfTrailingZeros_0f7a4_73 rfl (by decide) [0, 1] rfl ?_
            refine g_iload_n B dJ6_numberOfTrailingZeros_0f7a4_74 1 rfl ?_
            refine g_iload_n B dJ6_numberOfTrailingZeros_0f7a4_75 0 rfl ?_
            refine g_iconst (v := (1 : Int32)) B dJ6_numberOfTrailingZeros_0f7a4_76 (by decide) ?_
            refine g_iushr (v := (iShr (iShr (iShr (tz_1 x) (4 : Int32)) (2 : Int32)) (1 : Int32))) B dJ6_numberOfTrailingZeros_0f7a4_77 rfl ?_
            refine g_iadd (v := ((7 : Int32) + (iShr (iShr (iShr (tz_1 x) (4 : Int32)) (2 : Int32)) (1 : Int32)))) B dJ6_numberOfTrailingZeros_0f7a4_78 (rfl) ?_
            exact g_iret_p B hr rfl hlocks () (by simp [ks_tzI, tz_a, tz_b, tz_c, tz_d, c1, c2, c3, c4, c6]) (trivial) dJ6_numberOfTrailingZeros_0f7a4_79
      · refine g_iinc (lv' := [(0, .int (tz_1 x)), (1, .int (9 : Int32))]) B dJ6_numberOfTrailingZeros_0f7a4_41 1 rfl (by decide) (by decide) [1, 0] rfl ?_
        refine g_iload_n B dJ6_numberOfTrailingZeros_0f7a4_44 0 rfl ?_
        refine g_bipush (v := (8 : Int32)) B dJ6_numberOfTrailingZeros_0f7a4_45 (by decide) ?_
        refine g_iushr (v := (iShr (tz_1 x) (8 : Int32))) B dJ6_numberOfTrailingZeros_0f7a4_47 rfl ?_
        refine g_istore_n (lv' := [(0, .int (iShr (tz_1 x) (8 : Int32))), (1, .int (9 : Int32))]) B dJ6_numberOfTrailingZeros_0f7a4_48 rfl (by decide) [0, 1] rfl ?_
        refine g_iload_n B dJ6_numberOfTrailingZeros_0f7a4_49 0 rfl ?_
        refine g_bipush (v := (16 : Int32)) B dJ6_numberOfTrailingZeros_0f7a4_50 (by decide) ?_
        refine g_icmp_le (tgt := 62) B dJ6_numberOfTrailingZeros_0f7a4_52 (by decide) (fun c7 => ?_) (fun c7 => ?_)
        · refine g_iload_n B dJ6_numberOfTrailingZeros_0f7a4_62 0 rfl ?_
          refine g_iconst (v := (4 : Int32)) B dJ6_numberOfTrailingZeros_0f7a4_63 (by decide) ?_
          refine g_icmp_le (tgt := 74) B dJ6_numberOfTrailingZeros_0f7a4_64 (by decide) (fun c8 => ?_) (fun c8 => ?_)
          · refine g_iload_n B dJ6_numberOfTrailingZeros_0f7a4_74 1 rfl ?_
            refine g_iload_n B dJ6_numberOfTrailingZeros_0f7a4_75 0 rfl ?_
            refine g_iconst (v := (1 : Int32)) B dJ6_numberOfTrailingZeros_0f7a4_76 (by decide) ?_
            refine g_iushr (v := (iShr (iShr (tz_1 x) (8 : Int32)) (1 : Int32))) B dJ6_numberOfTrailingZeros_0f7a4_77 rfl ?_
            refine g_iadd (v := ((9 : Int32) + (iShr (iShr (tz_1 x) (8 : Int32)) (1 : Int32)))) B dJ6_numberOfTrailingZeros_0f7a4_78 (rfl) ?_
            exact g_iret_p B hr rfl hlocks () (by simp [ks_tzI, tz_a, tz_b, tz_c, tz_d, c1, c2, c3, c7, c8]) (trivial) dJ6_numberOfTrailingZeros_0f7a4_79
          · refine g_iinc (lv' := [(0, .int (iShr (tz_1 x) (8 : Int32))), (1, .int (11 : Int32))]) B dJ6_numberOfTrailingZeros_0f7a4_67 1 rfl (by decide) (by decide) [1, 0] rfl ?_
            refine g_iload_n B dJ6_numberOfTrailingZeros_0f7a4_70 0 rfl ?_
            refine g_iconst (v := (2 : Int32)) B dJ6_numberOfTrailingZeros_0f7a4_71 (by decide) ?_
            refine g_iushr (v := (iShr (iShr (tz_1 x) (8 : Int32)) (2 : Int32))) B dJ6_numberOfTrailingZeros_0f7a4_72 rfl ?_
            refine g_istore_n (lv' := [(0, .int (iShr (iShr (tz_1 x) (8 : Int32)) (2 : Int32))), (1, .int (11 : Int32))]) B dJ6_numberOfTrailingZeros_0f7a4_73 rfl (by decide) [0, 1] rfl ?_
            refine g_iload_n B dJ6_numberOfTrailingZeros_0f7a4_74 1 rfl ?_
            refine g_iload_n B dJ6_numberOfTrailingZeros_0f7a4_75 0 rfl ?_
            refine g_iconst (v := (1 : Int32)) B dJ6_numberOfTrailingZeros_0f7a4_76 (by decide) ?_
            refine g_iushr (v := (iShr (iShr (iShr (tz_1 x) (8 : Int32)) (2 : Int32)) (1 : Int32))) B dJ6_numberOfTrailingZeros_0f7a4_77 rfl ?_
            refine g_iadd (v := ((11 : Int32) + (iShr (iShr (iShr (tz_1 x) (8 : Int32)) (2 : Int32)) (1 : Int32)))) B dJ6_numberOfTrailingZeros_0f7a4_78 (rfl) ?_
            exact g_iret_p B hr rfl hlocks () (by simp [ks_tzI, tz_a, tz_b, tz_c, tz_d, c1, c2, c3, c7, c8]) (trivial) dJ6_numberOfTrailingZeros_0f7a4_79
        · refine g_iinc (lv' := [(0, .int (iShr (tz_1 x) (8 : Int32))), (1, .int (13 : Int32))]) B dJ6_numberOfTrailingZeros_0f7a4_55 1 rfl (by decide) (by decide) [1, 0] rfl ?_
          refine g_iload_n B dJ6_numberOfTrailingZeros_0f7a4_58 0 rfl ?_
          refine g_iconst (v := (4 : Int32)) B dJ6_numberOfTrailingZeros_0f7a4_59 (by decide) ?_
          refine g_iushr (v := (iShr (iShr (tz_1 x) (8 : Int32)) (4 : Int32))) B dJ6_numberOfTrailingZeros_0f7a4_60 rfl ?_
          refine g_istore_n (lv' := [(0, .int (iShr (iShr (tz_1 x) (8 : Int32)) (4 : Int32))), (1, .int (13 : Int32))]) B dJ6_numberOfTrailingZeros_0f7a4_61 rfl (by decide) [0, 1] rfl ?_
          refine g_iload_n B dJ6_numberOfTrailingZeros_0f7a4_62 0 rfl ?_
          refine g_iconst (v := (4 : Int32)) B dJ6_numberOfTrailingZeros_0f7a4_63 (by decide) ?_
          refine g_icmp_le (tgt := 74) B dJ6_numberOfTrailingZeros_0f7a4_64 (by decide) (fun c9 => ?_) (fun c9 => ?_)
          · refine g_iload_n B dJ6_numberOfTrailingZeros_0f7a4_74 1 rfl ?_
            refine g_iload_n B dJ6_numberOfTrailingZeros_0f7a4_75 0 rfl ?_
            refine g_iconst (v := (1 : Int32)) B dJ6_numberOfTrailingZeros_0f7a4_76 (by decide) ?_
            refine g_iushr (v := (iShr (iShr (iShr (tz_1 x) (8 : Int32)) (4 : Int32)) (1 : Int32))) B dJ6_numberOfTrailingZeros_0f7a4_77 rfl ?_
            refine g_iadd (v := ((13 : Int32) + (iShr (iShr (iShr (tz_1 x) (8 : Int32)) (4 : Int32)) (1 : Int32)))) B dJ6_numberOfTrailingZeros_0f7a4_78 (rfl) ?_
            exact g_iret_p B hr rfl hlocks () (by simp [ks_tzI, tz_a, tz_b, tz_c, tz_d, c1, c2, c3, c7, c9]) (trivial) dJ6_numberOfTrailingZeros_0f7a4_79
          · refine g_iinc (lv' := [(0, .int (iShr (iShr (tz_1 x) (8 : Int32)) (4 : Int32))), (1, .int (15 : Int32))]) B dJ6_numberOfTrailingZeros_0f7a4_67 1 rfl (by decide) (by decide) [1, 0] rfl ?_
            refine g_iload_n B dJ6_numberOfTrailingZeros_0f7a4_70 0 rfl ?_
            refine g_iconst (v := (2 : Int32)) B dJ6_numberOfTrailingZeros_0f7a4_71 (by decide) ?_
            refine g_iushr (v := (iShr (iShr (iShr (tz_1 x) (8 : Int32)) (4 : Int32)) (2 : Int32))) B dJ6_numberOfTrailingZeros_0f7a4_72 rfl ?_
            refine g_istore_n (lv' := [(0, .int (iShr (iShr (iShr (tz_1 x) (8 : Int32)) (4 : Int32)) (2 : Int32))), (1, .int (15 : Int32))]) B dJ6_numberOfTrailingZeros_0f7a4_73 rfl (by decide) [0, 1] rfl ?_
            refine g_iload_n B dJ6_numberOfTrailingZeros_0f7a4_74 1 rfl ?_
            refine g_iload_n B dJ6_numberOfTrailingZeros_0f7a4_75 0 rfl ?_
            refine g_iconst (v := (1 : Int32)) B dJ6_numberOfTrailingZeros_0f7a4_76 (by decide) ?_
            refine g_iushr (v := (iShr (iShr (iShr (iShr (tz_1 x) (8 : Int32)) (4 : Int32)) (2 : Int32)) (1 : Int32))) B dJ6_numberOfTrailingZeros_0f7a4_77 rfl ?_
            refine g_iadd (v := ((15 : Int32) + (iShr (iShr (iShr (iShr (tz_1 x) (8 : Int32)) (4 : Int32)) (2 : Int32)) (1 : Int32)))) B dJ6_numberOfTrailingZeros_0f7a4_78 (rfl) ?_
            exact g_iret_p B hr rfl hlocks () (by simp [ks_tzI, tz_a, tz_b, tz_c, tz_d, c1, c2, c3, c7, c9]) (trivial) dJ6_numberOfTrailingZeros_0f7a4_79
    · refine g_iinc (lv' := [(0, .int (tz_1 x)), (1, .int (17 : Int32))]) B dJ6_numberOfTrailingZeros_0f7a4_26 1 rfl (by decide) (by decide) [1, 0] rfl ?_
      refine g_iload_n B dJ6_numberOfTrailingZeros_0f7a4_29 0 rfl ?_
      refine g_bipush (v := (16 : Int32)) B dJ6_numberOfTrailingZeros_0f7a4_30 (by decide) ?_
      refine g_iushr (v := (iShr (tz_1 x) (16 : Int32))) B dJ6_numberOfTrailingZeros_0f7a4_32 rfl ?_
      refine g_istore_n (lv' := [(0, .int (iShr (tz_1 x) (16 : Int32))), (1, .int (17 : Int32))]) B dJ6_numberOfTrailingZeros_0f7a4_33 rfl (by decide) [0, 1] rfl ?_
      refine g_iload_n B dJ6_numberOfTrailingZeros_0f7a4_34 0 rfl ?_
      refine g_sipush (v := (256 : Int32)) B dJ6_numberOfTrailingZeros_0f7a4_35 (by decide) ?_
      refine g_icmp_le (tgt := 49) B dJ6_numberOfTrailingZeros_0f7a4_38 (by decide) (fun c10 => ?_) (fun c10 => ?_)
      · refine g_iload_n B dJ6_numberOfTrailingZeros_0f7a4_49 0 rfl ?_
        refine g_bipush (v := (16 : Int32)) B dJ6_numberOfTrailingZeros_0f7a4_50 (by decide) ?_
        refine g_icmp_le (tgt := 62) B dJ6_numberOfTrailingZeros_0f7a4_52 (by decide) (fun c11 => ?_) (fun c11 => ?_)
        · refine g_iload_n B dJ6_numberOfTrailingZeros_0f7a4_62 0 rfl ?_
          refine g_iconst (v := (4 : Int32)) B dJ6_numberOfTrailingZeros_0f7a4_63 (by decide) ?_
          refine g_icmp_le (tgt := 74) B dJ6_numberOfTrailingZeros_0f7a4_64 (by decide) (fun c12 => ?_) (fun c12 => ?_)
          · refine g_iload_n B dJ6_numberOfTrailingZeros_0f7a4_74 1 rfl ?_
            refine g_iload_n B dJ6_numberOfTrailingZeros_0f7a4_75 0 rfl ?_
            refine g_iconst (v := (1 : Int32)) B dJ6_numberOfTrailingZeros_0f7a4_76 (by decide) ?_
            refine g_iushr (v := (iShr (iShr (tz_1 x) (16 : Int32)) (1 : Int32))) B dJ6_numberOfTrailingZeros_0f7a4_77 rfl ?_
            refine g_iadd (v := ((17 : Int32) + (iShr (iShr (tz_1 x) (16 : Int32)) (1 : Int32)))) B dJ6_numberOfTrailingZeros_0f7a4_78 (rfl) ?_
            exact g_iret_p B hr rfl hlocks () (by simp [ks_tzI, tz_a, tz_b, tz_c, tz_d, c1, c2, c10, c11, c12]) (trivial) dJ6_numberOfTrailingZeros_0f7a4_79
          · refine g_iinc (lv' := [(0, .int (iShr (tz_1 x) (16 : Int32))), (1, .int (19 : Int32))]) B dJ6_numberOfTrailingZeros_0f7a4_67 1 rfl (by decide) (by decide) [1, 0] rfl ?_
            refine g_iload_n B dJ6_numberOfTrailingZeros_0f7a4_70 0 rfl ?_
            refine g_iconst (v := (2 : Int32)) B dJ6_numberOfTrailingZeros_0f7a4_71 (by decide) ?_
            refine g_iushr (v := (iShr (iShr (tz_1 x) (16 : Int32)) (2 : Int32))) B dJ6_numberOfTrailingZeros_0f7a4_72 rfl ?_
            refine g_istore_n (lv' := [(0, .int (iShr (iShr (tz_1 x) (16 : Int32)) (2 : Int32))), (1, .int (19 : Int32))]) B dJ6_numberOfTrailingZeros_0f7a4_73 rfl (by decide) [0, 1] rfl ?_
            refine g_iload_n B dJ6_numberOfTrailingZeros_0f7a4_74 1 rfl ?_
            refine g_iload_n B dJ6_numberOfTrailingZeros_0f7a4_75 0 rfl ?_
            refine g_iconst (v := (1 : Int32)) B dJ6_numberOfTrailingZeros_0f7a4_76 (by decide) ?_
            refine g_iushr (v := (iShr (iShr (iShr (tz_1 x) (16 : Int32)) (2 : Int32)) (1 : Int32))) B dJ6_numberOfTrailingZeros_0f7a4_77 rfl ?_
            refine g_iadd (v := ((19 : Int32) + (iShr (iShr (iShr (tz_1 x) (16 : Int32)) (2 : Int32)) (1 : Int32)))) B dJ6_numberOfTrailingZeros_0f7a4_78 (rfl) ?_
            exact g_iret_p B hr rfl hlocks () (by simp [ks_tzI, tz_a, tz_b, tz_c, tz_d, c1, c2, c10, c11, c12]) (trivial) dJ6_numberOfTrailingZeros_0f7a4_79
        · refine g_iinc (lv' := [(0, .int (iShr (tz_1 x) (16 : Int32))), (1, .int (21 : Int32))]) B dJ6_numberOfTrailingZeros_0f7a4_55 1 rfl (by decide) (by decide) [1, 0] rfl ?_
          refine g_iload_n B dJ6_numberOfTrailingZeros_0f7a4_58 0 rfl ?_
          refine g_iconst (v := (4 : Int32)) B dJ6_numberOfTrailingZeros_0f7a4_59 (by decide) ?_
          refine g_iushr (v := (iShr (iShr (tz_1 x) (16 : Int32)) (4 : Int32))) B dJ6_numberOfTrailingZeros_0f7a4_60 rfl ?_
          refine g_istore_n (lv' := [(0, .int (iShr (iShr (tz_1 x) (16 : Int32)) (4 : Int32))), (1, .int (21 : Int32))]) B dJ6_numberOfTrailingZeros_0f7a4_61 rfl (by decide) [0, 1] rfl ?_
          refine g_iload_n B dJ6_numberOfTrailingZeros_0f7a4_62 0 rfl ?_
          refine g_iconst (v := (4 : Int32)) B dJ6_numberOfTrailingZeros_0f7a4_63 (by decide) ?_
          refine g_icmp_le (tgt := 74) B dJ6_numberOfTrailingZeros_0f7a4_64 (by decide) (fun c13 => ?_) (fun c13 => ?_)
          · refine g_iload_n B dJ6_numberOfTrailingZeros_0f7a4_74 1 rfl ?_
            refine g_iload_n B dJ6_numberOfTrailingZeros_0f7a4_75 0 rfl ?_
            refine g_iconst (v := (1 : Int32)) B dJ6_numberOfTrailingZeros_0f7a4_76 (by decide) ?_
            refine g_iushr (v := (iShr (iShr (iShr (tz_1 x) (16 : Int32)) (4 : Int32)) (1 : Int32))) B dJ6_numberOfTrailingZeros_0f7a4_77 rfl ?_
            refine g_iadd (v := ((21 : Int32) + (iShr (iShr (iShr (tz_1 x) (16 : Int32)) (4 : Int32)) (1 : Int32)))) B dJ6_numberOfTrailingZeros_0f7a4_78 (rfl) ?_
            exact g_iret_p B hr rfl hlocks () (by simp [ks_tzI, tz_a, tz_b, tz_c, tz_d, c1, c2, c10, c11, c13]) (trivial) dJ6_numberOfTrailingZeros_0f7a4_79
          · refine g_iinc (lv' := [(0, .int (iShr (iShr (tz_1 x) (16 : Int32)) (4 : Int32))), (1, .int (23 : Int32))]) B dJ6_numberOfTrailingZeros_0f7a4_67 1 rfl (by decide) (by decide) [1, 0] rfl ?_
            refine g_iload_n B dJ6_numberOfTrailingZeros_0f7a4_70 0 rfl ?_
            refine g_iconst (v := (2 : Int32)) B dJ6_numberOfTrailingZeros_0f7a4_71 (by decide) ?_
            refine g_iushr (v := (iShr (iShr (iShr (tz_1 x) (16 : Int32)) (4 : Int32)) (2 : Int32))) B dJ6_numberOfTrailingZeros_0f7a4_72 rfl ?_
            refine g_istore_n (lv' := [(0, .int (iShr (iShr (iShr (tz_1 x) (16 : Int32)) (4 : Int32)) (2 : Int32))), (1, .int (23 : Int32))]) B dJ6_numberOfTrailingZeros_0f7a4_73 rfl (by decide) [0, 1] rfl ?_
            refine g_iload_n B dJ6_numberOfTrailingZeros_0f7a4_74 1 rfl ?_
            refine g_iload_n B dJ6_numberOfTrailingZeros_0f7a4_75 0 rfl ?_
            refine g_iconst (v := (1 : Int32)) B dJ6_numberOfTrailingZeros_0f7a4_76 (by decide) ?_
            refine g_iushr (v := (iShr (iShr (iShr (iShr (tz_1 x) (16 : Int32)) (4 : Int32)) (2 : Int32)) (1 : Int32))) B dJ6_numberOfTrailingZeros_0f7a4_77 rfl ?_
            refine g_iadd (v := ((23 : Int32) + (iShr (iShr (iShr (iShr (tz_1 x) (16 : Int32)) (4 : Int32)) (2 : Int32)) (1 : Int32)))) B dJ6_numberOfTrailingZeros_0f7a4_78 (rfl) ?_
            exact g_iret_p B hr rfl hlocks () (by simp [ks_tzI, tz_a, tz_b, tz_c, tz_d, c1, c2, c10, c11, c13]) (trivial) dJ6_numberOfTrailingZeros_0f7a4_79
      · refine g_iinc (lv' := [(0, .int (iShr (tz_1 x) (16 : Int32))), (1, .int (25 : Int32))]) B dJ6_numberOfTrailingZeros_0f7a4_41 1 rfl (by decide) (by decide) [1, 0] rfl ?_
        refine g_iload_n B dJ6_numberOfTrailingZeros_0f7a4_44 0 rfl ?_
        refine g_bipush (v := (8 : Int32)) B dJ6_numberOfTrailingZeros_0f7a4_45 (by decide) ?_
        refine g_iushr (v := (iShr (iShr (tz_1 x) (16 : Int32)) (8 : Int32))) B dJ6_numberOfTrailingZeros_0f7a4_47 rfl ?_
        refine g_istore_n (lv' := [(0, .int (iShr (iShr (tz_1 x) (16 : Int32)) (8 : Int32))), (1, .int (25 : Int32))]) B dJ6_numberOfTrailingZeros_0f7a4_48 rfl (by decide) [0, 1] rfl ?_
        refine g_iload_n B dJ6_numberOfTrailingZeros_0f7a4_49 0 rfl ?_
        refine g_bipush (v := (16 : Int32)) B dJ6_numberOfTrailingZeros_0f7a4_50 (by decide) ?_
        refine g_icmp_le (tgt := 62) B dJ6_numberOfTrailingZeros_0f7a4_52 (by decide) (fun c14 => ?_) (fun c14 => ?_)
        · refine g_iload_n B dJ6_numberOfTrailingZeros_0f7a4_62 0 rfl ?_
          refine g_iconst (v := (4 : Int32)) B dJ6_numberOfTrailingZeros_0f7a4_63 (by decide) ?_
          refine g_icmp_le (tgt := 74) B dJ6_numberOfTrailingZeros_0f7a4_64 (by decide) (fun c15 => ?_) (fun c15 => ?_)
          · refine g_iload_n B dJ6_numberOfTrailingZeros_0f7a4_74 1 rfl ?_
            refine g_iload_n B dJ6_numberOfTrailingZeros_0f7a4_75 0 rfl ?_
            refine g_iconst (v := (1 : Int32)) B dJ6_numberOfTrailingZeros_0f7a4_76 (by decide) ?_
            refine g_iushr (v := (iShr (iShr (iShr (tz_1 x) (16 : Int32)) (8 : Int32)) (1 : Int32))) B dJ6_numberOfTrailingZeros_0f7a4_77 rfl ?_
            refine g_iadd (v := ((25 : Int32) + (iShr (iShr (iShr (tz_1 x) (16 : Int32)) (8 : Int32)) (1 : Int32)))) B dJ6_numberOfTrailingZeros_0f7a4_78 (rfl) ?_
            exact g_iret_p B hr rfl hlocks () (by simp [ks_tzI, tz_a, tz_b, tz_c, tz_d, c1, c2, c10, c14, c15]) (trivial) dJ6_numberOfTrailingZeros_0f7a4_79
          · refine g_iinc (lv' := [(0, .int (iShr (iShr (tz_1 x) (16 : Int32)) (8 : Int32))), (1, .int (27 : Int32))]) B dJ6_numberOfTrailingZeros_0f7a4_67 1 rfl (by decide) (by decide) [1, 0] rfl ?_
            refine g_iload_n B dJ6_numberOfTrailingZeros_0f7a4_70 0 rfl ?_
            refine g_iconst (v := (2 : Int32)) B dJ6_numberOfTrailingZeros_0f7a4_71 (by decide) ?_
            refine g_iushr (v := (iShr (iShr (iShr (tz_1 x) (16 : Int32)) (8 : Int32)) (2 : Int32))) B dJ6_numberOfTrailingZeros_0f7a4_72 rfl ?_
            refine g_istore_n (lv' := [(0, .int (iShr (iShr (iShr (tz_1 x) (16 : Int32)) (8 : Int32)) (2 : Int32))), (1, .int (27 : Int32))]) B dJ6_numberOfTrailingZeros_0f7a4_73 rfl (by decide) [0, 1] rfl ?_
            refine g_iload_n B dJ6_numberOfTrailingZeros_0f7a4_74 1 rfl ?_
            refine g_iload_n B dJ6_numberOfTrailingZeros_0f7a4_75 0 rfl ?_
            refine g_iconst (v := (1 : Int32)) B dJ6_numberOfTrailingZeros_0f7a4_76 (by decide) ?_
            refine g_iushr (v := (iShr (iShr (iShr (iShr (tz_1 x) (16 : Int32)) (8 : Int32)) (2 : Int32)) (1 : Int32))) B dJ6_numberOfTrailingZeros_0f7a4_77 rfl ?_
            refine g_iadd (v := ((27 : Int32) + (iShr (iShr (iShr (iShr (tz_1 x) (16 : Int32)) (8 : Int32)) (2 : Int32)) (1 : Int32)))) B dJ6_numberOfTrailingZeros_0f7a4_78 (rfl) ?_
            exact g_iret_p B hr rfl hlocks () (by simp [ks_tzI, tz_a, tz_b, tz_c, tz_d, c1, c2, c10, c14, c15]) (trivial) dJ6_numberOfTrailingZeros_0f7a4_79
        · refine g_iinc (lv' := [(0, .int (iShr (iShr (tz_1 x) (16 : Int32)) (8 : Int32))), (1, .int (29 : Int32))]) B dJ6_numberOfTrailingZeros_0f7a4_55 1 rfl (by decide) (by decide) [1, 0] rfl ?_
          refine g_iload_n B dJ6_numberOfTrailingZeros_0f7a4_58 0 rfl ?_
          refine g_iconst (v := (4 : Int32)) B dJ6_numberOfTrailingZeros_0f7a4_59 (by decide) ?_
          refine g_iushr (v := (iShr (iShr (iShr (tz_1 x) (16 : Int32)) (8 : Int32)) (4 : Int32))) B dJ6_numberOfTrailingZeros_0f7a4_60 rfl ?_
          refine g_istore_n (lv' := [(0, .int (iShr (iShr (iShr (tz_1 x) (16 : Int32)) (8 : Int32)) (4 : Int32))), (1, .int (29 : Int32))]) B dJ6_numberOfTrailingZeros_0f7a4_61 rfl (by decide) [0, 1] rfl ?_
          refine g_iload_n B dJ6_numberOfTrailingZeros_0f7a4_62 0 rfl ?_
          refine g_iconst (v := (4 : Int32)) B dJ6_numberOfTrailingZeros_0f7a4_63 (by decide) ?_
          refine g_icmp_le (tgt := 74) B dJ6_numberOfTrailingZeros_0f7a4_64 (by decide) (fun c16 => ?_) (fun c16 => ?_)
          · refine g_iload_n B dJ6_numberOfTrailingZeros_0f7a4_74 1 rfl ?_
            refine g_iload_n B dJ6_numberOfTrailingZeros_0f7a4_75 0 rfl ?_
            refine g_iconst (v := (1 : Int32)) B dJ6_numberOfTrailingZeros_0f7a4_76 (by decide) ?_
            refine g_iushr (v := (iShr (iShr (iShr (iShr (tz_1 x) (16 : Int32)) (8 : Int32)) (4 : Int32)) (1 : Int32))) B dJ6_numberOfTrailingZeros_0f7a4_77 rfl ?_
            refine g_iadd (v := ((29 : Int32) + (iShr (iShr (iShr (iShr (tz_1 x) (16 : Int32)) (8 : Int32)) (4 : Int32)) (1 : Int32)))) B dJ6_numberOfTrailingZeros_0f7a4_78 (rfl) ?_
            exact g_iret_p B hr rfl hlocks () (by simp [ks_tzI, tz_a, tz_b, tz_c, tz_d, c1, c2, c10, c14, c16]) (trivial) dJ6_numberOfTrailingZeros_0f7a4_79
          · refine g_iinc (lv' := [(0, .int (iShr (iShr (iShr (tz_1 x) (16 : Int32)) (8 : Int32)) (4 : Int32))), (1, .int (31 : Int32))]) B dJ6_numberOfTrailingZeros_0f7a4_67 1 rfl (by decide) (by decide) [1, 0] rfl ?_
            refine g_iload_n B dJ6_numberOfTrailingZeros_0f7a4_70 0 rfl ?_
            refine g_iconst (v := (2 : Int32)) B dJ6_numberOfTrailingZeros_0f7a4_71 (by decide) ?_
            refine g_iushr (v := (iShr (iShr (iShr (iShr (tz_1 x) (16 : Int32)) (8 : Int32)) (4 : Int32)) (2 : Int32))) B dJ6_numberOfTrailingZeros_0f7a4_72 rfl ?_
            refine g_istore_n (lv' := [(0, .int (iShr (iShr (iShr (iShr (tz_1 x) (16 : Int32)) (8 : Int32)) (4 : Int32)) (2 : Int32))), (1, .int (31 : Int32))]) B dJ6_numberOfTrailingZeros_0f7a4_73 rfl (by decide) [0, 1] rfl ?_
            refine g_iload_n B dJ6_numberOfTrailingZeros_0f7a4_74 1 rfl ?_
            refine g_iload_n B dJ6_numberOfTrailingZeros_0f7a4_75 0 rfl ?_
            refine g_iconst (v := (1 : Int32)) B dJ6_numberOfTrailingZeros_0f7a4_76 (by decide) ?_
            refine g_iushr (v := (iShr (iShr (iShr (iShr (iShr (tz_1 x) (16 : Int32)) (8 : Int32)) (4 : Int32)) (2 : Int32)) (1 : Int32))) B dJ6_numberOfTrailingZeros_0f7a4_77 rfl ?_
            refine g_iadd (v := ((31 : Int32) + (iShr (iShr (iShr (iShr (iShr (tz_1 x) (16 : Int32)) (8 : Int32)) (4 : Int32)) (2 : Int32)) (1 : Int32)))) B dJ6_numberOfTrailingZeros_0f7a4_78 (rfl) ?_
            exact g_iret_p B hr rfl hlocks () (by simp [ks_tzI, tz_a, tz_b, tz_c, tz_d, c1, c2, c10, c14, c16]) (trivial) dJ6_numberOfTrailingZeros_0f7a4_79
  · refine g_iload_n B dJ6_numberOfTrailingZeros_0f7a4_12 0 rfl ?_
    refine g_bipush (v := (32 : Int32)) B dJ6_numberOfTrailingZeros_0f7a4_13 (by decide) ?_
    refine g_iand (v := ((tz_1 x) &&& (32 : Int32))) B dJ6_numberOfTrailingZeros_0f7a4_15 (rfl) ?_
    exact g_iret_p B hr rfl hlocks () (by simp [ks_tzI, tz_a, tz_b, tz_c, tz_d, c1]) (trivial) dJ6_numberOfTrailingZeros_0f7a4_16

set_option maxHeartbeats 4000000 in
set_option maxRecDepth 100000 in
theorem k_tz (l : Launch) {D : va_G} {cI cL cZ cQ : ClassId} (x : Int64)  : PM l yJ13_numberOfTrailingZeros_95d88 wsJ13_numberOfTrailingZeros_95d88 ({ frames := 1, cells := 0, slots := 0, locals := 21 } : Room) D (gTys cI cL cZ cQ) [.long x] [] (fun (_ : Unit) => True) (fun (_ : Unit) => some (.int (ks_tz x))) := by
  refine PM.ofG cJ13_numberOfTrailingZeros_95d88 3 (some .int) (by decide +kernel) rfl (Nat.le_of_ble_eq_true rfl) ?_
  intro p e s m below meth c B hr hlocks hname hK hN
  refine g_lload_n B dJ13_numberOfTrailingZeros_95d88_0 0 rfl ?_
  refine g_l2i (v := x.toInt32) B dJ13_numberOfTrailingZeros_95d88_1 rfl ?_
  refine g_istore_n (lv' := [(0, .long x), (2, .int x.toInt32)]) B dJ13_numberOfTrailingZeros_95d88_2 rfl (by decide) [1, 0] rfl ?_
  refine g_iload_n B dJ13_numberOfTrailingZeros_95d88_3 1 rfl ?_
  refine g_if_ne (tgt := 21) B dJ13_numberOfTrailingZeros_95d88_4 (by decide) (fun c1 => ?_) (fun c1 => ?_)
  · refine g_iload_n B dJ13_numberOfTrailingZeros_95d88_21 1 rfl ?_
    refine g_callP (g_runS B (PM.met (k_tzI l (D := D) (cI := cI) (cL := cL) (cZ := cZ) (cQ := cQ) x.toInt32 )) (gPp.pre (av := [.int x.toInt32]) (wc := []) hK hN [] rfl (by decide)) gJ13_numberOfTrailingZeros_95d88_J6_numberOfTrailingZeros_0f7a4 rfl kd_J6_numberOfTrailingZeros_0f7a4 ⟨by decide, by decide⟩ (st := []) rfl (Nat.le_of_ble_eq_true rfl) dJ13_numberOfTrailingZeros_95d88_22 ⟨by decide, by decide⟩) (fun u hu => ?_)
    exact g_iret_p B hr rfl hlocks () (by unfold ks_tz; first | rw [if_pos c1] | rw [if_neg c1]) (trivial) dJ13_numberOfTrailingZeros_95d88_25
  · refine g_bipush (v := (32 : Int32)) B dJ13_numberOfTrailingZeros_95d88_7 (by decide) ?_
    refine g_lload_n B dJ13_numberOfTrailingZeros_95d88_9 0 rfl ?_
    refine g_bipush (v := (32 : Int32)) B dJ13_numberOfTrailingZeros_95d88_10 (by decide) ?_
    refine g_lushr (v := lShr x (32 : Int32)) B dJ13_numberOfTrailingZeros_95d88_12 (rfl) ?_
    refine g_l2i (v := (lShr x (32 : Int32)).toInt32) B dJ13_numberOfTrailingZeros_95d88_13 rfl ?_
    refine g_callP (g_runS B (PM.met (k_tzI l (D := D) (cI := cI) (cL := cL) (cZ := cZ) (cQ := cQ) ((lShr x (32 : Int32)).toInt32) )) (gPp.pre (av := [.int ((lShr x (32 : Int32)).toInt32)]) (wc := []) hK hN [] rfl (by decide)) gJ13_numberOfTrailingZeros_95d88_J6_numberOfTrailingZeros_0f7a4 rfl kd_J6_numberOfTrailingZeros_0f7a4 ⟨by decide, by decide⟩ (st := [.int (32 : Int32)]) rfl (Nat.le_of_ble_eq_true rfl) dJ13_numberOfTrailingZeros_95d88_14 ⟨by decide, by decide⟩) (fun u hu => ?_)
    refine g_iadd (v := ((32 : Int32) + (ks_tzI (lShr x (32 : Int32)).toInt32))) B dJ13_numberOfTrailingZeros_95d88_17 (rfl) ?_
    refine g_goto (tgt := 25) B dJ13_numberOfTrailingZeros_95d88_18 (by decide) ?_
    exact g_iret_p B hr rfl hlocks () (by unfold ks_tz; first | rw [if_pos c1] | rw [if_neg c1]) (trivial) dJ13_numberOfTrailingZeros_95d88_25

set_option maxHeartbeats 4000000 in
set_option maxRecDepth 100000 in
theorem k_ofKnown (l : Launch) {D : va_G} {cI cL cZ cQ : ClassId} (hb : Nat) (hp : Nat) (ht : Nat) (hg : Nat) (ha : Nat) (hq : Nat) (P : Pg) (a0 : Nat) (a1 : Nat) (a2 : Nat) (a3 : Nat) (n : Nat) (S : Int64) (f0 : Nat → Int32) (f1 : Nat → Int32) (F : Nat → Int64) (mu : Nat → Nat) (t : Nat → Nat) (k : Nat) (w : Nat) (hn : n ≤ 40) (hAO : ks_AO P t n f0 f1 F) (hS : ks_SK n S) (hmu : ∀ i, mu i < 1000) (hk : k < n) (hw6 : w < 7) : PM l yX5_ofKnown wsX5_ofKnown ({ frames := 4, cells := 0, slots := 0, locals := 94 } : Room) D (gTys cI cL cZ cQ) [.ref hb, .int (nI k), .int (nI w)] [(hb, .inr (5, [.ref hp, .ref ht, .ref hg, .ref ha, .ref hq])), (ha, .inr (0, [.ref a0, .ref a1, .ref a2, .ref a3, .int (nI n), .long S])), (a0, .inl (cI, 41, .inl f0)), (a1, .inl (cI, 41, .inl f1)), (a2, .inl (cI, 41, .inl (fun i => nI (mu i)))), (a3, .inl (cL, 41, .inr (.inl F)))] (fun (_ : Unit) => True) (fun (_ : Unit) => some (.int (ks_ok P t mu S k w))) := by
  refine PM.ofG cX5_ofKnown 3 (some .int) (by decide +kernel) rfl (Nat.le_of_ble_eq_true rfl) ?_
  intro p e s m below meth c B hr hlocks hname hK hN
  refine g_iload_n B dX5_ofKnown_0 1 rfl ?_
  refine g_nif_lt (tgt := 21) B k rfl (by omega) dX5_ofKnown_1 (by decide) ?_
  refine g_iload_n B dX5_ofKnown_4 1 rfl ?_
  refine g_aload_n B dX5_ofKnown_5 0 rfl ?_
  refine g_get (C := RX5) (T := TX5) (N := 5) (ci := 5) B hK hin_X5_ofKnown_RX5 0 rfl rfl 3 (by decide) (List.mem_of_getElem? (i := 5) rfl) rfl (v := .ref ha) rfl dX5_ofKnown_6 ?_
  refine g_getN (C := RX0) (T := TX0) (N := 6) (ci := 0) B hK hin_X5_ofKnown_RX0 1 rfl rfl 4 (by decide) hN 4 rfl rfl (v := .int (nI n)) rfl dX5_ofKnown_9 ?_
  refine g_ncmp_ge (tgt := 21) B k n rfl rfl (by omega) (by omega) dX5_ofKnown_12 (by decide) (fun c1 => ?_) (fun c1 => ?_)
  · exfalso; omega
  refine g_iload_n B dX5_ofKnown_15 1 rfl ?_
  refine g_bipush (v := (40 : Int32)) B dX5_ofKnown_16 (by decide) ?_
  refine g_ncmp_lt (tgt := 31) B k 40 rfl rfl (by omega) (by omega) dX5_ofKnown_18 (by decide) (fun c2 => ?_) (fun c2 => ?_)
  rotate_left; · exfalso; omega
  refine g_iload_n B dX5_ofKnown_31 2 rfl ?_
  refine g_nif_lt (tgt := 41) B w rfl (by omega) dX5_ofKnown_32 (by decide) ?_
  refine g_iload_n B dX5_ofKnown_35 2 rfl ?_
  refine g_bipush (v := (6 : Int32)) B dX5_ofKnown_36 (by decide) ?_
  refine g_ncmp_le (tgt := 51) B w 6 rfl rfl (by omega) (by omega) dX5_ofKnown_38 (by decide) (fun c3 => ?_) (fun c3 => ?_)
  rotate_left; · exfalso; omega
  refine g_iload_n B dX5_ofKnown_51 2 rfl ?_
  rcases (show w = 0 ∨ w = 1 ∨ w = 2 ∨ w = 3 ∨ w = 4 ∨ w = 5 ∨ w = 6 by omega) with c4 | c4 | c4 | c4 | c4 | c4 | c4
  · refine g_eqi (y := (0 : Int32)) (by rw [c4]; rfl) ?_
    refine g_tableIn (off := 40) (tgt := 92) B dX5_ofKnown_52 (by decide) (by decide) (by decide) (by decide) ?_
    refine g_aload_n B dX5_ofKnown_92 0 rfl ?_
    refine g_get (C := RX5) (T := TX5) (N := 5) (ci := 5) B hK hin_X5_ofKnown_RX5 0 rfl rfl 3 (by decide) (List.mem_of_getElem? (i := 5) rfl) rfl (v := .ref ha) rfl dX5_ofKnown_93 ?_
    refine g_getN (C := RX0) (T := TX0) (N := 6) (ci := 0) B hK hin_X5_ofKnown_RX0 1 rfl rfl 0 (by decide) hN 3 rfl rfl (v := .ref a0) rfl dX5_ofKnown_96 ?_
    refine g_iload_n B dX5_ofKnown_99 1 rfl ?_
    refine g_iald B hK 2 0 rfl rfl k rfl (by omega) (by omega) (v := nI (t k)) ((hAO k (by omega)).1) dX5_ofKnown_100 ?_
    refine g_eqi (y := ks_ok P t mu S k w) (by unfold ks_ok; rw [c4]; rfl) ?_
    exact g_iret_p B hr rfl hlocks () (rfl) (trivial) dX5_ofKnown_101
  · refine g_eqi (y := (1 : Int32)) (by rw [c4]; rfl) ?_
    refine g_tableIn (off := 50) (tgt := 102) B dX5_ofKnown_52 (by decide) (by decide) (by decide) (by decide) ?_
    refine g_aload_n B dX5_ofKnown_102 0 rfl ?_
    refine g_get (C := RX5) (T := TX5) (N := 5) (ci := 5) B hK hin_X5_ofKnown_RX5 0 rfl rfl 3 (by decide) (List.mem_of_getElem? (i := 5) rfl) rfl (v := .ref ha) rfl dX5_ofKnown_103 ?_
    refine g_iload_n B dX5_ofKnown_106 1 rfl ?_
    refine g_callP (g_runV (q0 := 1) (ci := 0) B hK rfl rfl (PM.met (k_isKept l (D := D) (cI := cI) (cL := cL) (cZ := cZ) (cQ := cQ) ha a0 a1 a2 a3 n S k (by first | assumption | omega))) (gPp.pre (av := [.ref ha, .int (nI k)]) (wc := [(ha, .inr (0, [.ref a0, .ref a1, .ref a2, .ref a3, .int (nI n), .long S]))]) hK hN [1] rfl (by decide)) gX5_ofKnown_X0_isKept rfl rfl kd_X0_isKept ⟨by decide, by decide⟩ (st := []) rfl (Nat.le_of_ble_eq_true rfl) dX5_ofKnown_107 ⟨by decide, by decide⟩) (fun u hu => ?_)
    refine g_bif_eq (tgt := 117) B dX5_ofKnown_110 (by decide) (fun c6 => ?_) (fun c6 => ?_)
    · refine g_iconst (v := (0 : Int32)) B dX5_ofKnown_117 (by decide) ?_
      refine g_eqi (y := ks_ok P t mu S k w) (by unfold ks_ok; rw [c4]; rfl) ?_
      exact g_iret_p B hr rfl hlocks () (rfl) (trivial) dX5_ofKnown_118
    · refine g_iconst (v := (1 : Int32)) B dX5_ofKnown_113 (by decide) ?_
      refine g_goto (tgt := 118) B dX5_ofKnown_114 (by decide) ?_
      refine g_eqi (y := ks_ok P t mu S k w) (by unfold ks_ok; rw [c4]; rfl) ?_
      exact g_iret_p B hr rfl hlocks () (rfl) (trivial) dX5_ofKnown_118
  · refine g_eqi (y := (2 : Int32)) (by rw [c4]; rfl) ?_
    refine g_tableIn (off := 67) (tgt := 119) B dX5_ofKnown_52 (by decide) (by decide) (by decide) (by decide) ?_
    refine g_aload_n B dX5_ofKnown_119 0 rfl ?_
    refine g_get (C := RX5) (T := TX5) (N := 5) (ci := 5) B hK hin_X5_ofKnown_RX5 0 rfl rfl 3 (by decide) (List.mem_of_getElem? (i := 5) rfl) rfl (v := .ref ha) rfl dX5_ofKnown_120 ?_
    refine g_iload_n B dX5_ofKnown_123 1 rfl ?_
    refine g_callP (g_runV (q0 := 1) (ci := 0) B hK rfl rfl (PM.met (k_energyOf l (D := D) (cI := cI) (cL := cL) (cZ := cZ) (cQ := cQ) ha a0 a1 a2 a3 n S F mu k (by first | assumption | omega) (by first | assumption | omega))) (gPp.pre (av := [.ref ha, .int (nI k)]) (wc := [(ha, .inr (0, [.ref a0, .ref a1, .ref a2, .ref a3, .int (nI n), .long S])), (a2, .inl (cI, 41, .inl (fun i => nI (mu i)))), (a3, .inl (cL, 41, .inr (.inl F)))]) hK hN [1, 4, 5] rfl (by decide)) gX5_ofKnown_X0_energyOf rfl rfl kd_X0_energyOf ⟨by decide, by decide⟩ (st := []) rfl (Nat.le_of_ble_eq_true rfl) dX5_ofKnown_124 ⟨by decide, by decide⟩) (fun u hu => ?_)
    refine g_eqi (y := ks_ok P t mu S k w) (by rw [ks_en_cong (by omega) hk hS (ao_F hAO)]; unfold ks_ok; rw [c4]; rfl) ?_
    exact g_iret_p B hr rfl hlocks () (rfl) (trivial) dX5_ofKnown_127
  · refine g_eqi (y := (3 : Int32)) (by rw [c4]; rfl) ?_
    refine g_tableIn (off := 76) (tgt := 128) B dX5_ofKnown_52 (by decide) (by decide) (by decide) (by decide) ?_
    refine g_aload_n B dX5_ofKnown_128 0 rfl ?_
    refine g_get (C := RX5) (T := TX5) (N := 5) (ci := 5) B hK hin_X5_ofKnown_RX5 0 rfl rfl 3 (by decide) (List.mem_of_getElem? (i := 5) rfl) rfl (v := .ref ha) rfl dX5_ofKnown_129 ?_
    refine g_getN (C := RX0) (T := TX0) (N := 6) (ci := 0) B hK hin_X5_ofKnown_RX0 1 rfl rfl 2 (by decide) hN 2 rfl rfl (v := .ref a2) rfl dX5_ofKnown_132 ?_
    refine g_iload_n B dX5_ofKnown_135 1 rfl ?_
    refine g_iald B hK 4 0 rfl rfl k rfl (by omega) (by omega) (v := nI (mu k)) rfl dX5_ofKnown_136 ?_
    refine g_eqi (y := ks_ok P t mu S k w) (by unfold ks_ok; rw [c4]; rfl) ?_
    exact g_iret_p B hr rfl hlocks () (rfl) (trivial) dX5_ofKnown_137
  · refine g_eqi (y := (4 : Int32)) (by rw [c4]; rfl) ?_
    refine g_tableIn (off := 86) (tgt := 138) B dX5_ofKnown_52 (by decide) (by decide) (by decide) (by decide) ?_
    refine g_aload_n B dX5_ofKnown_138 0 rfl ?_
    refine g_get (C := RX5) (T := TX5) (N := 5) (ci := 5) B hK hin_X5_ofKnown_RX5 0 rfl rfl 3 (by decide) (List.mem_of_getElem? (i := 5) rfl) rfl (v := .ref ha) rfl dX5_ofKnown_139 ?_
    refine g_getN (C := RX0) (T := TX0) (N := 6) (ci := 0) B hK hin_X5_ofKnown_RX0 1 rfl rfl 1 (by decide) hN 5 rfl rfl (v := .ref a1) rfl dX5_ofKnown_142 ?_
    refine g_iload_n B dX5_ofKnown_145 1 rfl ?_
    refine g_iald B hK 3 0 rfl rfl k rfl (by omega) (by omega) (v := nI (ks_rs P (t k))) ((hAO k (by omega)).2.2.1) dX5_ofKnown_146 ?_
    refine g_eqi (y := ks_ok P t mu S k w) (by unfold ks_ok; rw [c4]; rfl) ?_
    exact g_iret_p B hr rfl hlocks () (rfl) (trivial) dX5_ofKnown_147
  · refine g_eqi (y := (5 : Int32)) (by rw [c4]; rfl) ?_
    refine g_tableIn (off := 96) (tgt := 148) B dX5_ofKnown_52 (by decide) (by decide) (by decide) (by decide) ?_
    refine g_aload_n B dX5_ofKnown_148 0 rfl ?_
    refine g_get (C := RX5) (T := TX5) (N := 5) (ci := 5) B hK hin_X5_ofKnown_RX5 0 rfl rfl 3 (by decide) (List.mem_of_getElem? (i := 5) rfl) rfl (v := .ref ha) rfl dX5_ofKnown_149 ?_
    refine g_getN (C := RX0) (T := TX0) (N := 6) (ci := 0) B hK hin_X5_ofKnown_RX0 1 rfl rfl 3 (by decide) hN 6 rfl rfl (v := .ref a3) rfl dX5_ofKnown_152 ?_
    refine g_iload_n B dX5_ofKnown_155 1 rfl ?_
    refine g_lald B hK 5 1 rfl rfl k rfl (by omega) (by omega) (v := (ks_fd P (t k))) ((hAO k (by omega)).2.2.2) dX5_ofKnown_156 ?_
    refine g_callP (g_runS B (PM.met (k_edgesIn l (D := D) (cI := cI) (cL := cL) (cZ := cZ) (cQ := cQ) (ks_fd P (t k)) )) (gPp.pre (av := [.long (ks_fd P (t k))]) (wc := []) hK hN [] rfl (by decide)) gX5_ofKnown_X5_edgesIn rfl kd_X5_edgesIn ⟨by decide, by decide⟩ (st := []) rfl (Nat.le_of_ble_eq_true rfl) dX5_ofKnown_157 ⟨by decide, by decide⟩) (fun u hu => ?_)
    refine g_eqi (y := ks_ok P t mu S k w) (by unfold ks_ok; rw [c4]; rfl) ?_
    exact g_iret_p B hr rfl hlocks () (rfl) (trivial) dX5_ofKnown_160
  · refine g_eqi (y := (6 : Int32)) (by rw [c4]; rfl) ?_
    refine g_tableOut (tgt := 161) B dX5_ofKnown_52 (by decide) (by decide) ?_
    refine g_aload_n B dX5_ofKnown_161 0 rfl ?_
    refine g_get (C := RX5) (T := TX5) (N := 5) (ci := 5) B hK hin_X5_ofKnown_RX5 0 rfl rfl 3 (by decide) (List.mem_of_getElem? (i := 5) rfl) rfl (v := .ref ha) rfl dX5_ofKnown_162 ?_
    refine g_iload_n B dX5_ofKnown_165 1 rfl ?_
    refine g_aload_n B dX5_ofKnown_166 0 rfl ?_
    refine g_get (C := RX5) (T := TX5) (N := 5) (ci := 5) B hK hin_X5_ofKnown_RX5 0 rfl rfl 3 (by decide) (List.mem_of_getElem? (i := 5) rfl) rfl (v := .ref ha) rfl dX5_ofKnown_167 ?_
    refine g_getN (C := RX0) (T := TX0) (N := 6) (ci := 0) B hK hin_X5_ofKnown_RX0 1 rfl rfl 5 (by decide) hN 7 rfl rfl (v := .long S) rfl dX5_ofKnown_170 ?_
    refine g_callP (g_runV (q0 := 1) (ci := 0) B hK rfl rfl (PM.met (k_foundAloneBy l (D := D) (cI := cI) (cL := cL) (cZ := cZ) (cQ := cQ) ha a0 a1 a2 a3 n S F S k (by first | assumption | omega))) (gPp.pre (av := [.ref ha, .int (nI k), .long S]) (wc := [(ha, .inr (0, [.ref a0, .ref a1, .ref a2, .ref a3, .int (nI n), .long S])), (a3, .inl (cL, 41, .inr (.inl F)))]) hK hN [1, 5] rfl (by decide)) gX5_ofKnown_X0_foundAloneBy rfl rfl kd_X0_foundAloneBy ⟨by decide, by decide⟩ (st := []) rfl (Nat.le_of_ble_eq_true rfl) dX5_ofKnown_173 ⟨by decide, by decide⟩) (fun u hu => ?_)
    refine g_callP (g_runS B (PM.met (k_edgesIn l (D := D) (cI := cI) (cL := cL) (cZ := cZ) (cQ := cQ) (ks_al F k S) )) (gPp.pre (av := [.long (ks_al F k S)]) (wc := []) hK hN [] rfl (by decide)) gX5_ofKnown_X5_edgesIn rfl kd_X5_edgesIn ⟨by decide, by decide⟩ (st := []) rfl (Nat.le_of_ble_eq_true rfl) dX5_ofKnown_176 ⟨by decide, by decide⟩) (fun u hu => ?_)
    refine g_eqi (y := ks_ok P t mu S k w) (by rw [ks_al_cong hS (ao_F hAO) (ao_F hAO k hk) (by omega)]; unfold ks_ok; rw [c4]; rfl) ?_
    exact g_iret_p B hr rfl hlocks () (rfl) (trivial) dX5_ofKnown_179

set_option maxHeartbeats 4000000 in
set_option maxRecDepth 100000 in
theorem k_ofEdge (l : Launch) {D : va_G} {cI cL cZ cQ : ClassId} (hb : Nat) (hp : Nat) (ht : Nat) (hg : Nat) (ha : Nat) (hq : Nat) (P : Pg) (a0 : Nat) (a1 : Nat) (a2 : Nat) (a3 : Nat) (n : Nat) (S : Int64) (f0 : Nat → Int32) (f1 : Nat → Int32) (F : Nat → Int64) (t : Nat → Nat) (ed : Nat) (w : Nat) (hn : n ≤ 40) (hAO : ks_AO P t n f0 f1 F) (hS : ks_SK n S) (he : ed < 24) (hw2 : w < 3) : PM l yX5_ofEdge wsX5_ofEdge ({ frames := 2, cells := 0, slots := 0, locals := 46 } : Room) D (gTys cI cL cZ cQ) [.ref hb, .int (nI ed), .int (nI w)] [(hb, .inr (5, [.ref hp, .ref ht, .ref hg, .ref ha, .ref hq])), (ha, .inr (0, [.ref a0, .ref a1, .ref a2, .ref a3, .int (nI n), .long S])), (a3, .inl (cL, 41, .inr (.inl F)))] (fun (_ : Unit) => True) (fun (_ : Unit) => some (.int (ks_oe P t n S ed w))) := by
  refine PM.ofG cX5_ofEdge 5 (some .int) (by decide +kernel) rfl (Nat.le_of_ble_eq_true rfl) ?_
  intro p e s m below meth c B hr hlocks hname hK hN
  refine g_iload_n B dX5_ofEdge_0 1 rfl ?_
  refine g_callP (g_runS B (PM.met (k_checkEdge_n l (D := D) (cI := cI) (cL := cL) (cZ := cZ) (cQ := cQ) ed (by first | assumption | omega))) (gPp.pre (av := [.int (nI ed)]) (wc := []) hK hN [] rfl (by decide)) gX5_ofEdge_X5_checkEdge rfl kd_X5_checkEdge ⟨by decide, by decide⟩ (st := []) rfl (Nat.le_of_ble_eq_true rfl) dX5_ofEdge_1 ⟨by decide, by decide⟩) (fun u hu => ?_)
  refine g_iload_n B dX5_ofEdge_4 2 rfl ?_
  refine g_nif_lt (tgt := 13) B w rfl (by omega) dX5_ofEdge_5 (by decide) ?_
  refine g_iload_n B dX5_ofEdge_8 2 rfl ?_
  refine g_iconst (v := (2 : Int32)) B dX5_ofEdge_9 (by decide) ?_
  refine g_ncmp_le (tgt := 23) B w 2 rfl rfl (by omega) (by omega) dX5_ofEdge_10 (by decide) (fun c2 => ?_) (fun c2 => ?_)
  rotate_left; · exfalso; omega
  refine g_aload_n B dX5_ofEdge_23 0 rfl ?_
  refine g_get (C := RX5) (T := TX5) (N := 5) (ci := 5) B hK hin_X5_ofEdge_RX5 0 rfl rfl 3 (by decide) (List.mem_of_getElem? (i := 3) rfl) rfl (v := .ref ha) rfl dX5_ofEdge_24 ?_
  refine g_iload_n B dX5_ofEdge_27 1 rfl ?_
  refine g_callP (g_runV (q0 := 1) (ci := 0) B hK rfl rfl (PM.met (k_coverersOf l (D := D) (cI := cI) (cL := cL) (cZ := cZ) (cQ := cQ) ha a0 a1 a2 a3 n S F ed (by first | assumption | omega) (by first | assumption | omega))) (gPp.pre (av := [.ref ha, .int (nI ed)]) (wc := [(ha, .inr (0, [.ref a0, .ref a1, .ref a2, .ref a3, .int (nI n), .long S])), (a3, .inl (cL, 41, .inr (.inl F)))]) hK hN [1, 2] rfl (by decide)) gX5_ofEdge_X0_coverersOf rfl rfl kd_X0_coverersOf ⟨by decide, by decide⟩ (st := []) rfl (Nat.le_of_ble_eq_true rfl) dX5_ofEdge_28 ⟨by decide, by decide⟩) (fun u hu => ?_)
  refine g_lstore_n (lv' := [(0, .ref hb), (1, .int (nI ed)), (2, .int (nI w)), (3, .long (ks_cv F ed n))]) B dX5_ofEdge_31 rfl (by decide) [1, 2, 3, 0] rfl ?_
  refine g_iload_n B dX5_ofEdge_32 2 rfl ?_
  rcases (show w = 0 ∨ w = 1 ∨ w = 2 by omega) with c4 | c4 | c4
  · refine g_eqi (y := (0 : Int32)) (by rw [c4]; rfl) ?_
    refine g_lookup (off := 27) (tgt := 60) B dX5_ofEdge_33 (by decide) (by decide) (by decide) ?_
    refine g_lload_n B dX5_ofEdge_60 3 rfl ?_
    refine g_aload_n B dX5_ofEdge_61 0 rfl ?_
    refine g_get (C := RX5) (T := TX5) (N := 5) (ci := 5) B hK hin_X5_ofEdge_RX5 0 rfl rfl 3 (by decide) (List.mem_of_getElem? (i := 3) rfl) rfl (v := .ref ha) rfl dX5_ofEdge_62 ?_
    refine g_getN (C := RX0) (T := TX0) (N := 6) (ci := 0) B hK hin_X5_ofEdge_RX0 1 rfl rfl 5 (by decide) hN 7 rfl rfl (v := .long S) rfl dX5_ofEdge_65 ?_
    refine g_land (v := ((ks_cv F ed n) &&& S)) B dX5_ofEdge_68 (rfl) ?_
    refine g_callP (g_runS B (PM.met (k_bitCount l (D := D) (cI := cI) (cL := cL) (cZ := cZ) (cQ := cQ) ((ks_cv F ed n) &&& S) )) (gPp.pre (av := [.long ((ks_cv F ed n) &&& S)]) (wc := []) hK hN [] rfl (by decide)) gX5_ofEdge_J13_bitCount_95d88 rfl kd_J13_bitCount_95d88 ⟨by decide, by decide⟩ (st := []) rfl (Nat.le_of_ble_eq_true rfl) dX5_ofEdge_69 ⟨by decide, by decide⟩) (fun u hu => ?_)
    refine g_eqi (y := ks_oe P t n S ed w) (by first | rw [ks_cv_cong (ao_F hAO)] | skip; unfold ks_oe; rw [c4]; rfl) ?_
    exact g_iret_p B hr rfl hlocks () (rfl) (trivial) dX5_ofEdge_72
  · refine g_eqi (y := (1 : Int32)) (by rw [c4]; rfl) ?_
    refine g_lookup (off := 40) (tgt := 73) B dX5_ofEdge_33 (by decide) (by decide) (by decide) ?_
    refine g_lload_n B dX5_ofEdge_73 3 rfl ?_
    refine g_callP (g_runS B (PM.met (k_bitCount l (D := D) (cI := cI) (cL := cL) (cZ := cZ) (cQ := cQ) (ks_cv F ed n) )) (gPp.pre (av := [.long (ks_cv F ed n)]) (wc := []) hK hN [] rfl (by decide)) gX5_ofEdge_J13_bitCount_95d88 rfl kd_J13_bitCount_95d88 ⟨by decide, by decide⟩ (st := []) rfl (Nat.le_of_ble_eq_true rfl) dX5_ofEdge_74 ⟨by decide, by decide⟩) (fun u hu => ?_)
    refine g_eqi (y := ks_oe P t n S ed w) (by first | rw [ks_cv_cong (ao_F hAO)] | skip; unfold ks_oe; rw [c4]; rfl) ?_
    exact g_iret_p B hr rfl hlocks () (rfl) (trivial) dX5_ofEdge_77
  · refine g_eqi (y := (2 : Int32)) (by rw [c4]; rfl) ?_
    refine g_lookup (off := 45) (tgt := 78) B dX5_ofEdge_33 (by decide) (by decide) (by decide) ?_
    refine g_lload_n B dX5_ofEdge_78 3 rfl ?_
    refine g_lconst (v := (0 : Int64)) B dX5_ofEdge_79 rfl ?_
    refine g_lcmp (v := (lg_cmp (ks_cv F ed n) (0 : Int64))) B dX5_ofEdge_80 rfl ?_
    refine g_lif_ne (tgt := 88) B dX5_ofEdge_81 (by decide) (fun c7 => ?_) (fun c7 => ?_)
    · refine g_lload_n B dX5_ofEdge_88 3 rfl ?_
      refine g_callP (g_runS B (PM.met (k_tz l (D := D) (cI := cI) (cL := cL) (cZ := cZ) (cQ := cQ) (ks_cv F ed n) )) (gPp.pre (av := [.long (ks_cv F ed n)]) (wc := []) hK hN [] rfl (by decide)) gX5_ofEdge_J13_numberOfTrailingZeros_95d88 rfl kd_J13_numberOfTrailingZeros_95d88 ⟨by decide, by decide⟩ (st := []) rfl (Nat.le_of_ble_eq_true rfl) dX5_ofEdge_89 ⟨by decide, by decide⟩) (fun u hu => ?_)
      have hz := c7; rw [ks_cv_cong (ao_F hAO)] at hz
      refine g_eqi (y := ks_oe P t n S ed w) (by first | rw [ks_cv_cong (ao_F hAO)] | skip; unfold ks_oe; rw [c4]; rw [if_neg (by decide), if_neg (by decide)]; rw [if_neg hz]) ?_
      exact g_iret_p B hr rfl hlocks () (rfl) (trivial) dX5_ofEdge_92
    · refine g_iconst (v := (-1 : Int32)) B dX5_ofEdge_84 (by decide) ?_
      refine g_goto (tgt := 92) B dX5_ofEdge_85 (by decide) ?_
      have hz := c7; rw [ks_cv_cong (ao_F hAO)] at hz
      refine g_eqi (y := ks_oe P t n S ed w) (by first | rw [ks_cv_cong (ao_F hAO)] | skip; unfold ks_oe; rw [c4]; rw [if_neg (by decide), if_neg (by decide)]; rw [if_pos hz]) ?_
      exact g_iret_p B hr rfl hlocks () (rfl) (trivial) dX5_ofEdge_92

set_option maxHeartbeats 4000000 in
set_option maxRecDepth 100000 in
theorem k_many (l : Launch) {D : va_G} {cI cL cZ cQ : ClassId} (hb : Nat) (hp : Nat) (ht : Nat) (hg : Nat) (ha : Nat) (hq : Nat) (p0 : Nat) (p1 : Nat) (p2 : Nat) (p3 : Nat) (p4 : Nat) (P : Pg) (a0 : Nat) (a1 : Nat) (a2 : Nat) (a3 : Nat) (n : Nat) (S : Int64) (f0 : Nat → Int32) (f1 : Nat → Int32) (F : Nat → Int64) (t : Nat → Nat) (g0 : Nat) (g1 : Nat) (g2 : Nat) (sd : Nat) (r0 : Nat) (r1 : Nat) (r2 : Nat) (rc : Nat) (w : Nat) (hW : ks_WP P) (hn : n ≤ 40) (hAO : ks_AO P t n f0 f1 F) (hS : ks_SK n S) (hw8 : w < 8) : PM l yX5_many wsX5_many ({ frames := 2, cells := 0, slots := 0, locals := 47 } : Room) D (gTys cI cL cZ cQ) [.ref hb, .int (nI w)] [(hb, .inr (5, [.ref hp, .ref ht, .ref hg, .ref ha, .ref hq])), (hp, .inr (2, [.ref p0, .ref p1, .ref p2, .ref p3, .ref p4])), (p3, .inl (cI, 24, .inl (fun i => ks_tI (P.2.2.2.1 i)))), (ha, .inr (0, [.ref a0, .ref a1, .ref a2, .ref a3, .int (nI n), .long S])), (a3, .inl (cL, 41, .inr (.inl F))), (hg, .inr (1, [.ref g0, .ref g1, .ref g2, .int (nI sd)])), (hq, .inr (3, [.ref r0, .ref r1, .ref r2, .int (nI rc)]))] (fun (_ : Unit) => True) (fun (_ : Unit) => some (.int (ks_my P t n S rc sd w))) := by
  refine PM.ofG cX5_many 2 (some .int) (by decide +kernel) rfl (Nat.le_of_ble_eq_true rfl) ?_
  intro p e s m below meth c B hr hlocks hname hK hN
  refine g_iload_n B dX5_many_0 1 rfl ?_
  refine g_nif_lt (tgt := 10) B w rfl (by omega) dX5_many_1 (by decide) ?_
  refine g_iload_n B dX5_many_4 1 rfl ?_
  refine g_bipush (v := (7 : Int32)) B dX5_many_5 (by decide) ?_
  refine g_ncmp_le (tgt := 20) B w 7 rfl rfl (by omega) (by omega) dX5_many_7 (by decide) (fun c1 => ?_) (fun c1 => ?_)
  rotate_left; · exfalso; omega
  refine g_iload_n B dX5_many_20 1 rfl ?_
  rcases (show w = 0 ∨ w = 1 ∨ w = 2 ∨ w = 3 ∨ w = 4 ∨ w = 5 ∨ w = 6 ∨ w = 7 by omega) with c2 | c2 | c2 | c2 | c2 | c2 | c2 | c2
  · refine g_eqi (y := (0 : Int32)) (by rw [c2]; rfl) ?_
    refine g_tableIn (off := 43) (tgt := 64) B dX5_many_21 (by decide) (by decide) (by decide) (by decide) ?_
    refine g_aload_n B dX5_many_64 0 rfl ?_
    refine g_get (C := RX5) (T := TX5) (N := 5) (ci := 5) B hK hin_X5_many_RX5 0 rfl rfl 3 (by decide) (List.mem_of_getElem? (i := 3) rfl) rfl (v := .ref ha) rfl dX5_many_65 ?_
    refine g_getN (C := RX0) (T := TX0) (N := 6) (ci := 0) B hK hin_X5_many_RX0 3 rfl rfl 4 (by decide) hN 4 rfl rfl (v := .int (nI n)) rfl dX5_many_68 ?_
    refine g_eqi (y := ks_my P t n S rc sd w) (by unfold ks_my; rw [c2]; rfl) ?_
    exact g_iret_p B hr rfl hlocks () (rfl) (trivial) dX5_many_71
  · refine g_eqi (y := (1 : Int32)) (by rw [c2]; rfl) ?_
    refine g_tableIn (off := 51) (tgt := 72) B dX5_many_21 (by decide) (by decide) (by decide) (by decide) ?_
    refine g_aload_n B dX5_many_72 0 rfl ?_
    refine g_get (C := RX5) (T := TX5) (N := 5) (ci := 5) B hK hin_X5_many_RX5 0 rfl rfl 3 (by decide) (List.mem_of_getElem? (i := 3) rfl) rfl (v := .ref ha) rfl dX5_many_73 ?_
    refine g_getN (C := RX0) (T := TX0) (N := 6) (ci := 0) B hK hin_X5_many_RX0 3 rfl rfl 5 (by decide) hN 7 rfl rfl (v := .long S) rfl dX5_many_76 ?_
    refine g_callP (g_runS B (PM.met (k_bitCount l (D := D) (cI := cI) (cL := cL) (cZ := cZ) (cQ := cQ) S )) (gPp.pre (av := [.long S]) (wc := []) hK hN [] rfl (by decide)) gX5_many_J13_bitCount_95d88 rfl kd_J13_bitCount_95d88 ⟨by decide, by decide⟩ (st := []) rfl (Nat.le_of_ble_eq_true rfl) dX5_many_79 ⟨by decide, by decide⟩) (fun u hu => ?_)
    refine g_eqi (y := ks_my P t n S rc sd w) (by unfold ks_my; rw [c2]; rfl) ?_
    exact g_iret_p B hr rfl hlocks () (rfl) (trivial) dX5_many_82
  · refine g_eqi (y := (2 : Int32)) (by rw [c2]; rfl) ?_
    refine g_tableIn (off := 62) (tgt := 83) B dX5_many_21 (by decide) (by decide) (by decide) (by decide) ?_
    refine g_aload_n B dX5_many_83 0 rfl ?_
    refine g_get (C := RX5) (T := TX5) (N := 5) (ci := 5) B hK hin_X5_many_RX5 0 rfl rfl 3 (by decide) (List.mem_of_getElem? (i := 3) rfl) rfl (v := .ref ha) rfl dX5_many_84 ?_
    refine g_aload_n B dX5_many_87 0 rfl ?_
    refine g_get (C := RX5) (T := TX5) (N := 5) (ci := 5) B hK hin_X5_many_RX5 0 rfl rfl 3 (by decide) (List.mem_of_getElem? (i := 3) rfl) rfl (v := .ref ha) rfl dX5_many_88 ?_
    refine g_getN (C := RX0) (T := TX0) (N := 6) (ci := 0) B hK hin_X5_many_RX0 3 rfl rfl 5 (by decide) hN 7 rfl rfl (v := .long S) rfl dX5_many_91 ?_
    refine g_callP (g_runV (q0 := 3) (ci := 0) B hK rfl rfl (PM.met (k_foundBy l (D := D) (cI := cI) (cL := cL) (cZ := cZ) (cQ := cQ) ha a0 a1 a2 a3 n S F S )) (gPp.pre (av := [.ref ha, .long S]) (wc := [(ha, .inr (0, [.ref a0, .ref a1, .ref a2, .ref a3, .int (nI n), .long S])), (a3, .inl (cL, 41, .inr (.inl F)))]) hK hN [3, 4] rfl (by decide)) gX5_many_X0_foundBy rfl rfl kd_X0_foundBy ⟨by decide, by decide⟩ (st := []) rfl (Nat.le_of_ble_eq_true rfl) dX5_many_94 ⟨by decide, by decide⟩) (fun u hu => ?_)
    refine g_callP (g_runS B (PM.met (k_edgesIn l (D := D) (cI := cI) (cL := cL) (cZ := cZ) (cQ := cQ) (ks_fb F S 41) )) (gPp.pre (av := [.long (ks_fb F S 41)]) (wc := []) hK hN [] rfl (by decide)) gX5_many_X5_edgesIn rfl kd_X5_edgesIn ⟨by decide, by decide⟩ (st := []) rfl (Nat.le_of_ble_eq_true rfl) dX5_many_97 ⟨by decide, by decide⟩) (fun u hu => ?_)
    refine g_eqi (y := ks_my P t n S rc sd w) (by rw [ks_fbS hS (ao_F hAO)]; unfold ks_my; rw [c2]; rfl) ?_
    exact g_iret_p B hr rfl hlocks () (rfl) (trivial) dX5_many_100
  · refine g_eqi (y := (3 : Int32)) (by rw [c2]; rfl) ?_
    refine g_tableIn (off := 80) (tgt := 101) B dX5_many_21 (by decide) (by decide) (by decide) (by decide) ?_
    refine g_aload_n B dX5_many_101 0 rfl ?_
    refine g_get (C := RX5) (T := TX5) (N := 5) (ci := 5) B hK hin_X5_many_RX5 0 rfl rfl 3 (by decide) (List.mem_of_getElem? (i := 3) rfl) rfl (v := .ref ha) rfl dX5_many_102 ?_
    refine g_aload_n B dX5_many_105 0 rfl ?_
    refine g_get (C := RX5) (T := TX5) (N := 5) (ci := 5) B hK hin_X5_many_RX5 0 rfl rfl 3 (by decide) (List.mem_of_getElem? (i := 3) rfl) rfl (v := .ref ha) rfl dX5_many_106 ?_
    refine g_callP (g_runV (q0 := 3) (ci := 0) B hK rfl rfl (PM.met (k_allKnown l (D := D) (cI := cI) (cL := cL) (cZ := cZ) (cQ := cQ) ha a0 a1 a2 a3 n S (by first | assumption | omega))) (gPp.pre (av := [.ref ha]) (wc := [(ha, .inr (0, [.ref a0, .ref a1, .ref a2, .ref a3, .int (nI n), .long S]))]) hK hN [3] rfl (by decide)) gX5_many_X0_allKnown rfl rfl kd_X0_allKnown ⟨by decide, by decide⟩ (st := [.ref ha]) rfl (Nat.le_of_ble_eq_true rfl) dX5_many_109 ⟨by decide, by decide⟩) (fun u hu => ?_)
    refine g_callP (g_runV (q0 := 3) (ci := 0) B hK rfl rfl (PM.met (k_foundBy l (D := D) (cI := cI) (cL := cL) (cZ := cZ) (cQ := cQ) ha a0 a1 a2 a3 n S F (lShl 1 (nI n) - 1) )) (gPp.pre (av := [.ref ha, .long (lShl 1 (nI n) - 1)]) (wc := [(ha, .inr (0, [.ref a0, .ref a1, .ref a2, .ref a3, .int (nI n), .long S])), (a3, .inl (cL, 41, .inr (.inl F)))]) hK hN [3, 4] rfl (by decide)) gX5_many_X0_foundBy rfl rfl kd_X0_foundBy ⟨by decide, by decide⟩ (st := []) rfl (Nat.le_of_ble_eq_true rfl) dX5_many_112 ⟨by decide, by decide⟩) (fun u hu => ?_)
    refine g_callP (g_runS B (PM.met (k_edgesIn l (D := D) (cI := cI) (cL := cL) (cZ := cZ) (cQ := cQ) (ks_fb F (lShl 1 (nI n) - 1) 41) )) (gPp.pre (av := [.long (ks_fb F (lShl 1 (nI n) - 1) 41)]) (wc := []) hK hN [] rfl (by decide)) gX5_many_X5_edgesIn rfl kd_X5_edgesIn ⟨by decide, by decide⟩ (st := []) rfl (Nat.le_of_ble_eq_true rfl) dX5_many_115 ⟨by decide, by decide⟩) (fun u hu => ?_)
    refine g_eqi (y := ks_my P t n S rc sd w) (by rw [ks_fbS (ks_SK_all hn) (ao_F hAO)]; unfold ks_my; rw [c2]; rfl) ?_
    exact g_iret_p B hr rfl hlocks () (rfl) (trivial) dX5_many_118
  · refine g_eqi (y := (4 : Int32)) (by rw [c2]; rfl) ?_
    refine g_tableIn (off := 98) (tgt := 119) B dX5_many_21 (by decide) (by decide) (by decide) (by decide) ?_
    refine g_aload_n B dX5_many_119 0 rfl ?_
    refine g_get (C := RX5) (T := TX5) (N := 5) (ci := 5) B hK hin_X5_many_RX5 0 rfl rfl 3 (by decide) (List.mem_of_getElem? (i := 3) rfl) rfl (v := .ref ha) rfl dX5_many_120 ?_
    refine g_aload_n B dX5_many_123 0 rfl ?_
    refine g_get (C := RX5) (T := TX5) (N := 5) (ci := 5) B hK hin_X5_many_RX5 0 rfl rfl 3 (by decide) (List.mem_of_getElem? (i := 3) rfl) rfl (v := .ref ha) rfl dX5_many_124 ?_
    refine g_getN (C := RX0) (T := TX0) (N := 6) (ci := 0) B hK hin_X5_many_RX0 3 rfl rfl 5 (by decide) hN 7 rfl rfl (v := .long S) rfl dX5_many_127 ?_
    refine g_callP (g_runV (q0 := 3) (ci := 0) B hK rfl rfl (PM.met (k_foundBy l (D := D) (cI := cI) (cL := cL) (cZ := cZ) (cQ := cQ) ha a0 a1 a2 a3 n S F S )) (gPp.pre (av := [.ref ha, .long S]) (wc := [(ha, .inr (0, [.ref a0, .ref a1, .ref a2, .ref a3, .int (nI n), .long S])), (a3, .inl (cL, 41, .inr (.inl F)))]) hK hN [3, 4] rfl (by decide)) gX5_many_X0_foundBy rfl rfl kd_X0_foundBy ⟨by decide, by decide⟩ (st := []) rfl (Nat.le_of_ble_eq_true rfl) dX5_many_130 ⟨by decide, by decide⟩) (fun u hu => ?_)
    refine g_bipush (v := (24 : Int32)) B dX5_many_133 (by decide) ?_
    refine g_lushr (v := lShr (ks_fb F S 41) (24 : Int32)) B dX5_many_135 (rfl) ?_
    refine g_callP (g_runS B (PM.met (k_bitCount l (D := D) (cI := cI) (cL := cL) (cZ := cZ) (cQ := cQ) (lShr (ks_fb F S 41) (24 : Int32)) )) (gPp.pre (av := [.long (lShr (ks_fb F S 41) (24 : Int32))]) (wc := []) hK hN [] rfl (by decide)) gX5_many_J13_bitCount_95d88 rfl kd_J13_bitCount_95d88 ⟨by decide, by decide⟩ (st := []) rfl (Nat.le_of_ble_eq_true rfl) dX5_many_136 ⟨by decide, by decide⟩) (fun u hu => ?_)
    refine g_eqi (y := ks_my P t n S rc sd w) (by rw [ks_fbS hS (ao_F hAO)]; unfold ks_my; rw [c2]; rfl) ?_
    exact g_iret_p B hr rfl hlocks () (rfl) (trivial) dX5_many_139
  · refine g_eqi (y := (5 : Int32)) (by rw [c2]; rfl) ?_
    refine g_tableIn (off := 119) (tgt := 140) B dX5_many_21 (by decide) (by decide) (by decide) (by decide) ?_
    refine g_aload_n B dX5_many_140 0 rfl ?_
    refine g_get (C := RX5) (T := TX5) (N := 5) (ci := 5) B hK hin_X5_many_RX5 0 rfl rfl 4 (by decide) (List.mem_of_getElem? (i := 4) rfl) rfl (v := .ref hq) rfl dX5_many_141 ?_
    refine g_getN (C := RX3) (T := TX3) (N := 4) (ci := 3) B hK hin_X5_many_RX3 6 rfl rfl 3 (by decide) hN 8 rfl rfl (v := .int (nI rc)) rfl dX5_many_144 ?_
    refine g_eqi (y := ks_my P t n S rc sd w) (by unfold ks_my; rw [c2]; rfl) ?_
    exact g_iret_p B hr rfl hlocks () (rfl) (trivial) dX5_many_147
  · refine g_eqi (y := (6 : Int32)) (by rw [c2]; rfl) ?_
    refine g_tableIn (off := 127) (tgt := 148) B dX5_many_21 (by decide) (by decide) (by decide) (by decide) ?_
    refine g_aload_n B dX5_many_148 0 rfl ?_
    refine g_get (C := RX5) (T := TX5) (N := 5) (ci := 5) B hK hin_X5_many_RX5 0 rfl rfl 2 (by decide) (List.mem_of_getElem? (i := 5) rfl) rfl (v := .ref hg) rfl dX5_many_149 ?_
    refine g_getN (C := RX1) (T := TX1) (N := 4) (ci := 1) B hK hin_X5_many_RX1 5 rfl rfl 3 (by decide) hN 1 rfl rfl (v := .int (nI sd)) rfl dX5_many_152 ?_
    refine g_eqi (y := ks_my P t n S rc sd w) (by unfold ks_my; rw [c2]; rfl) ?_
    exact g_iret_p B hr rfl hlocks () (rfl) (trivial) dX5_many_155
  · refine g_eqi (y := (7 : Int32)) (by rw [c2]; rfl) ?_
    refine g_tableOut (tgt := 156) B dX5_many_21 (by decide) (by decide) ?_
    refine g_aload_n B dX5_many_156 0 rfl ?_
    refine g_get (C := RX5) (T := TX5) (N := 5) (ci := 5) B hK hin_X5_many_RX5 0 rfl rfl 0 (by decide) (List.mem_of_getElem? (i := 6) rfl) rfl (v := .ref hp) rfl dX5_many_157 ?_
    refine g_callP (g_runV (q0 := 1) (ci := 2) B hK rfl rfl (PM.met (k_reachableNodes l (D := D) (cI := cI) (cL := cL) (cZ := cZ) (cQ := cQ) hp p0 p1 p2 p3 p4 P )) (gPp.pre (av := [.ref hp]) (wc := [(hp, .inr (2, [.ref p0, .ref p1, .ref p2, .ref p3, .ref p4])), (p3, .inl (cI, 24, .inl (fun i => ks_tI (P.2.2.2.1 i))))]) hK hN [1, 2] rfl (by decide)) gX5_many_X2_reachableNodes rfl rfl kd_X2_reachableNodes ⟨by decide, by decide⟩ (st := []) rfl (Nat.le_of_ble_eq_true rfl) dX5_many_160 ⟨by decide, by decide⟩) (fun u hu => ?_)
    refine g_eqi (y := ks_my P t n S rc sd w) (by unfold ks_my; rw [c2]; rfl) ?_
    exact g_iret_p B hr rfl hlocks () (rfl) (trivial) dX5_many_163

set_option maxHeartbeats 4000000 in
set_option maxRecDepth 100000 in
theorem k_ff_0 (l : Launch) {D : va_G} {cI cL cZ cQ : ClassId} (a3 : Nat) (F : Nat → Int64) (n : Nat) (k : Nat) (o : Int64) (u : Nat) (b : Nat) (h1 : n ≤ 12) (h2 : n ≤ k + 0) (h3 : k ≤ 12) (h4 : u ≤ k) (h5 : b ≤ 12) : PM l yX5_fewestFrom wsX5_fewestFrom ({ frames := 1, cells := 0, slots := 0, locals := 21 } : Room) D (gTys cI cL cZ cQ) [.ref a3, .int (nI n), .int (nI k), .long o, .int (nI u), .int (nI b)] [(a3, .inl (cL, 41, .inr (.inl F)))] (fun (_ : Unit) => True) (fun (_ : Unit) => some (.int (nI (ks_ff F n 0 k o u b)))) := by
  refine PM.ofG cX5_fewestFrom 8 (some .int) (by decide +kernel) rfl (Nat.le_of_ble_eq_true rfl) ?_
  intro p e s m below meth c B hr hlocks hname hK hN
  refine g_lload_n B dX5_fewestFrom_0 3 rfl ?_
  refine g_lconst (v := (0 : Int64)) B dX5_fewestFrom_1 rfl ?_
  refine g_lcmp (v := (lg_cmp o (0 : Int64))) B dX5_fewestFrom_2 rfl ?_
  refine g_lif_ne (tgt := 14) B dX5_fewestFrom_3 (by decide) (fun c1 => ?_) (fun c1 => ?_)
  · refine g_iload_n B dX5_fewestFrom_14 2 rfl ?_
    refine g_iload_n B dX5_fewestFrom_15 1 rfl ?_
    refine g_ncmp_ge (tgt := 34) B k n rfl rfl (by omega) (by omega) dX5_fewestFrom_16 (by decide) (fun c2 => ?_) (fun c2 => ?_)
    rotate_left; · exfalso; omega
    refine g_iload B dX5_fewestFrom_34 5 rfl ?_
    exact g_iret_p B hr rfl hlocks () (by rw [show ks_ff F n 0 k o u b = (if o = 0 then (if b < u then b else u) else b) from rfl, if_neg c1]) (trivial) dX5_fewestFrom_36
  · refine g_iload B dX5_fewestFrom_6 4 rfl ?_
    refine g_iload B dX5_fewestFrom_8 5 rfl ?_
    refine g_mmin (v := (if nI b < nI u then nI b else nI u)) B (List.mem_of_getElem? (i := 1) rfl) (List.mem_of_getElem? (i := 2) rfl) (List.mem_of_getElem? (i := 3) rfl) (List.mem_of_getElem? (i := 4) rfl) (by decide) (by decide) (by decide) (by decide) dX5_fewestFrom_10 (rfl) ?_
    refine g_eqi (y := nI (if b < u then b else u)) (ks_minN (by omega) (by omega)) ?_
    exact g_iret_p B hr rfl hlocks () (by rw [show ks_ff F n 0 k o u b = (if o = 0 then (if b < u then b else u) else b) from rfl, if_pos c1]) (trivial) dX5_fewestFrom_13

set_option maxHeartbeats 4000000 in
set_option maxRecDepth 100000 in
theorem k_ff_1 (l : Launch) {D : va_G} {cI cL cZ cQ : ClassId} (a3 : Nat) (F : Nat → Int64) (n : Nat) (k : Nat) (o : Int64) (u : Nat) (b : Nat) (h1 : n ≤ 12) (h2 : n ≤ k + 1) (h3 : k ≤ 12) (h4 : u ≤ k) (h5 : b ≤ 12) : PM l yX5_fewestFrom wsX5_fewestFrom ({ frames := 2, cells := 0, slots := 0, locals := 48 } : Room) D (gTys cI cL cZ cQ) [.ref a3, .int (nI n), .int (nI k), .long o, .int (nI u), .int (nI b)] [(a3, .inl (cL, 41, .inr (.inl F)))] (fun (_ : Unit) => True) (fun (_ : Unit) => some (.int (nI (ks_ff F n 1 k o u b)))) := by
  refine PM.ofG cX5_fewestFrom 8 (some .int) (by decide +kernel) rfl (Nat.le_of_ble_eq_true rfl) ?_
  intro p e s m below meth c B hr hlocks hname hK hN
  have w1 := ks_ff_le F n 0 (k + 1) (o &&& (F k ^^^ (-1))) (u + 1) b
  refine g_lload_n B dX5_fewestFrom_0 3 rfl ?_
  refine g_lconst (v := (0 : Int64)) B dX5_fewestFrom_1 rfl ?_
  refine g_lcmp (v := (lg_cmp o (0 : Int64))) B dX5_fewestFrom_2 rfl ?_
  refine g_lif_ne (tgt := 14) B dX5_fewestFrom_3 (by decide) (fun c1 => ?_) (fun c1 => ?_)
  · refine g_iload_n B dX5_fewestFrom_14 2 rfl ?_
    refine g_iload_n B dX5_fewestFrom_15 1 rfl ?_
    refine g_ncmp_ge (tgt := 34) B k n rfl rfl (by omega) (by omega) dX5_fewestFrom_16 (by decide) (fun c2 => ?_) (fun c2 => ?_)
    · refine g_iload B dX5_fewestFrom_34 5 rfl ?_
      exact g_iret_p B hr rfl hlocks () (by rw [ks_ff_s, if_neg c1, if_pos (by omega)]) (trivial) dX5_fewestFrom_36
    · refine g_iload_n B dX5_fewestFrom_19 2 rfl ?_
      refine g_bipush (v := (12 : Int32)) B dX5_fewestFrom_20 (by decide) ?_
      refine g_ncmp_ge (tgt := 34) B k 12 rfl rfl (by omega) (by omega) dX5_fewestFrom_22 (by decide) (fun c3 => ?_) (fun c3 => ?_)
      · refine g_iload B dX5_fewestFrom_34 5 rfl ?_
        exact g_iret_p B hr rfl hlocks () (by rw [ks_ff_s, if_neg c1, if_pos (by omega)]) (trivial) dX5_fewestFrom_36
      · refine g_iload B dX5_fewestFrom_25 4 rfl ?_
        refine g_iconst (v := (1 : Int32)) B dX5_fewestFrom_27 (by decide) ?_
        refine g_iadd (v := nI (u + 1)) B dX5_fewestFrom_28 (nI_add u 1) ?_
        refine g_iload B dX5_fewestFrom_29 5 rfl ?_
        refine g_ncmp_lt (tgt := 37) B (u + 1) b rfl rfl (by omega) (by omega) dX5_fewestFrom_31 (by decide) (fun c4 => ?_) (fun c4 => ?_)
        · refine g_iload B dX5_fewestFrom_37 5 rfl ?_
          refine g_istore (lv' := [(0, .ref a3), (1, .int (nI n)), (2, .int (nI k)), (3, .long o), (5, .int (nI u)), (6, .int (nI b)), (7, .int (nI b))]) B dX5_fewestFrom_39 (by decide) [1, 2, 3, 4, 5, 6, 0] rfl ?_
          refine g_aload_n B dX5_fewestFrom_41 0 rfl ?_
          refine g_iload_n B dX5_fewestFrom_42 2 rfl ?_
          refine g_lald B hK 0 1 rfl rfl k rfl (by omega) (by omega) (v := (F k)) rfl dX5_fewestFrom_43 ?_
          refine g_lload_n B dX5_fewestFrom_44 3 rfl ?_
          refine g_land (v := ((F k) &&& o)) B dX5_fewestFrom_45 (rfl) ?_
          refine g_lconst (v := (0 : Int64)) B dX5_fewestFrom_46 rfl ?_
          refine g_lcmp (v := (lg_cmp ((F k) &&& o) (0 : Int64))) B dX5_fewestFrom_47 rfl ?_
          refine g_lif_eq (tgt := 76) B dX5_fewestFrom_48 (by decide) (fun c5 => ?_) (fun c5 => ?_)
          · refine g_aload_n B dX5_fewestFrom_76 0 rfl ?_
            refine g_iload_n B dX5_fewestFrom_77 1 rfl ?_
            refine g_iload_n B dX5_fewestFrom_78 2 rfl ?_
            refine g_iconst (v := (1 : Int32)) B dX5_fewestFrom_79 (by decide) ?_
            refine g_iadd (v := nI (k + 1)) B dX5_fewestFrom_80 (nI_add k 1) ?_
            refine g_lload_n B dX5_fewestFrom_81 3 rfl ?_
            refine g_iload B dX5_fewestFrom_82 4 rfl ?_
            refine g_iload B dX5_fewestFrom_84 6 rfl ?_
            refine g_callP (g_runS B (PM.met (k_ff_0 l (D := D) (cI := cI) (cL := cL) (cZ := cZ) (cQ := cQ) a3 F n (k + 1) o u b (by first | assumption | omega) (by first | assumption | omega) (by first | assumption | omega) (by first | assumption | omega) (by first | assumption | omega))) (gPp.pre (av := [.ref a3, .int (nI n), .int (nI (k + 1)), .long o, .int (nI u), .int (nI b)]) (wc := [(a3, .inl (cL, 41, .inr (.inl F)))]) hK hN [0] rfl (by decide)) gX5_fewestFrom_X5_fewestFrom rfl kd_X5_fewestFrom ⟨by decide, by decide⟩ (st := []) rfl (Nat.le_of_ble_eq_true rfl) dX5_fewestFrom_86 ⟨by decide, by decide⟩) (fun u hu => ?_)
            exact g_iret_p B hr rfl hlocks () (by rw [ks_ff_s, if_neg c1, if_neg (by omega), if_pos c5]) (trivial) dX5_fewestFrom_89
          · refine g_aload_n B dX5_fewestFrom_51 0 rfl ?_
            refine g_iload_n B dX5_fewestFrom_52 1 rfl ?_
            refine g_iload_n B dX5_fewestFrom_53 2 rfl ?_
            refine g_iconst (v := (1 : Int32)) B dX5_fewestFrom_54 (by decide) ?_
            refine g_iadd (v := nI (k + 1)) B dX5_fewestFrom_55 (nI_add k 1) ?_
            refine g_lload_n B dX5_fewestFrom_56 3 rfl ?_
            refine g_aload_n B dX5_fewestFrom_57 0 rfl ?_
            refine g_iload_n B dX5_fewestFrom_58 2 rfl ?_
            refine g_lald B hK 0 1 rfl rfl k rfl (by omega) (by omega) (v := (F k)) rfl dX5_fewestFrom_59 ?_
            refine g_ldc2 (v := (-1 : Int64)) B dX5_fewestFrom_60 (List.mem_of_getElem? (i := 5) rfl) ?_
            refine g_lxor (v := ((F k) ^^^ (-1 : Int64))) B dX5_fewestFrom_63 (rfl) ?_
            refine g_land (v := (o &&& ((F k) ^^^ (-1 : Int64)))) B dX5_fewestFrom_64 (rfl) ?_
            refine g_iload B dX5_fewestFrom_65 4 rfl ?_
            refine g_iconst (v := (1 : Int32)) B dX5_fewestFrom_67 (by decide) ?_
            refine g_iadd (v := nI (u + 1)) B dX5_fewestFrom_68 (nI_add u 1) ?_
            refine g_iload B dX5_fewestFrom_69 6 rfl ?_
            refine g_callP (g_runS B (PM.met (k_ff_0 l (D := D) (cI := cI) (cL := cL) (cZ := cZ) (cQ := cQ) a3 F n (k + 1) (o &&& ((F k) ^^^ (-1 : Int64))) (u + 1) b (by first | assumption | omega) (by first | assumption | omega) (by first | assumption | omega) (by first | assumption | omega) (by first | assumption | omega))) (gPp.pre (av := [.ref a3, .int (nI n), .int (nI (k + 1)), .long (o &&& ((F k) ^^^ (-1 : Int64))), .int (nI (u + 1)), .int (nI b)]) (wc := [(a3, .inl (cL, 41, .inr (.inl F)))]) hK hN [0] rfl (by decide)) gX5_fewestFrom_X5_fewestFrom rfl kd_X5_fewestFrom ⟨by decide, by decide⟩ (st := []) rfl (Nat.le_of_ble_eq_true rfl) dX5_fewestFrom_71 ⟨by decide, by decide⟩) (fun u hu => ?_)
            refine g_istore (lv' := [(0, .ref a3), (1, .int (nI n)), (2, .int (nI k)), (3, .long o), (5, .int (nI u)), (6, .int (nI b)), (7, .int (nI (ks_ff F n 0 k + 1 (o &&& ((F k) ^^^ (-1 : Int64))) u + 1 b)))]) B dX5_fewestFrom_74 (by decide) [1, 2, 3, 4, 5, 6, 0] rfl ?_
            refine g_aload_n B dX5_fewestFrom_76 0 rfl ?_
            refine g_iload_n B dX5_fewestFrom_77 1 rfl ?_
            refine g_iload_n B dX5_fewestFrom_78 2 rfl ?_
            refine g_iconst (v := (1 : Int32)) B dX5_fewestFrom_79 (by decide) ?_
            refine g_iadd (v := nI (k + 1)) B dX5_fewestFrom_80 (nI_add k 1) ?_
            refine g_lload_n B dX5_fewestFrom_81 3 rfl ?_
            refine g_iload B dX5_fewestFrom_82 4 rfl ?_
            refine g_iload B dX5_fewestFrom_84 6 rfl ?_
            refine g_callP (g_runS B (PM.met (k_ff_0 l (D := D) (cI := cI) (cL := cL) (cZ := cZ) (cQ := cQ) a3 F n (k + 1) o u (ks_ff F n 0 k + 1 (o &&& ((F k) ^^^ (-1 : Int64))) u + 1 b) (by first | assumption | omega) (by first | assumption | omega) (by first | assumption | omega) (by first | assumption | omega) (by first | assumption | omega))) (gPp.pre (av := [.ref a3, .int (nI n), .int (nI (k + 1)), .long o, .int (nI u), .int (nI (ks_ff F n 0 k + 1 (o &&& ((F k) ^^^ (-1 : Int64))) u + 1 b))]) (wc := [(a3, .inl (cL, 41, .inr (.inl F)))]) hK hN [0] rfl (by decide)) gX5_fewestFrom_X5_fewestFrom rfl kd_X5_fewestFrom ⟨by decide, by decide⟩ (st := []) rfl (Nat.le_of_ble_eq_true rfl) dX5_fewestFrom_86 ⟨by decide, by decide⟩) (fun u hu => ?_)
            exact g_iret_p B hr rfl hlocks () (by rw [ks_ff_s, if_neg c1, if_neg (by omega), if_neg c5]) (trivial) dX5_fewestFrom_89
        · refine g_iload B dX5_fewestFrom_34 5 rfl ?_
          exact g_iret_p B hr rfl hlocks () (by rw [ks_ff_s, if_neg c1, if_pos (by omega)]) (trivial) dX5_fewestFrom_36
  · refine g_iload B dX5_fewestFrom_6 4 rfl ?_
    refine g_iload B dX5_fewestFrom_8 5 rfl ?_
    refine g_mmin (v := (if nI b < nI u then nI b else nI u)) B (List.mem_of_getElem? (i := 1) rfl) (List.mem_of_getElem? (i := 2) rfl) (List.mem_of_getElem? (i := 3) rfl) (List.mem_of_getElem? (i := 4) rfl) (by decide) (by decide) (by decide) (by decide) dX5_fewestFrom_10 (rfl) ?_
    refine g_eqi (y := nI (if b < u then b else u)) (ks_minN (by omega) (by omega)) ?_
    exact g_iret_p B hr rfl hlocks () (by rw [ks_ff_s, if_pos c1]) (trivial) dX5_fewestFrom_13

set_option maxHeartbeats 4000000 in
set_option maxRecDepth 100000 in
theorem k_ff_2 (l : Launch) {D : va_G} {cI cL cZ cQ : ClassId} (a3 : Nat) (F : Nat → Int64) (n : Nat) (k : Nat) (o : Int64) (u : Nat) (b : Nat) (h1 : n ≤ 12) (h2 : n ≤ k + 2) (h3 : k ≤ 12) (h4 : u ≤ k) (h5 : b ≤ 12) : PM l yX5_fewestFrom wsX5_fewestFrom ({ frames := 3, cells := 0, slots := 0, locals := 75 } : Room) D (gTys cI cL cZ cQ) [.ref a3, .int (nI n), .int (nI k), .long o, .int (nI u), .int (nI b)] [(a3, .inl (cL, 41, .inr (.inl F)))] (fun (_ : Unit) => True) (fun (_ : Unit) => some (.int (nI (ks_ff F n 2 k o u b)))) := by
  refine PM.ofG cX5_fewestFrom 8 (some .int) (by decide +kernel) rfl (Nat.le_of_ble_eq_true rfl) ?_
  intro p e s m below meth c B hr hlocks hname hK hN
  have w1 := ks_ff_le F n 1 (k + 1) (o &&& (F k ^^^ (-1))) (u + 1) b
  refine g_lload_n B dX5_fewestFrom_0 3 rfl ?_
  refine g_lconst (v := (0 : Int64)) B dX5_fewestFrom_1 rfl ?_
  refine g_lcmp (v := (lg_cmp o (0 : Int64))) B dX5_fewestFrom_2 rfl ?_
  refine g_lif_ne (tgt := 14) B dX5_fewestFrom_3 (by decide) (fun c1 => ?_) (fun c1 => ?_)
  · refine g_iload_n B dX5_fewestFrom_14 2 rfl ?_
    refine g_iload_n B dX5_fewestFrom_15 1 rfl ?_
    refine g_ncmp_ge (tgt := 34) B k n rfl rfl (by omega) (by omega) dX5_fewestFrom_16 (by decide) (fun c2 => ?_) (fun c2 => ?_)
    · refine g_iload B dX5_fewestFrom_34 5 rfl ?_
      exact g_iret_p B hr rfl hlocks () (by rw [ks_ff_s, if_neg c1, if_pos (by omega)]) (trivial) dX5_fewestFrom_36
    · refine g_iload_n B dX5_fewestFrom_19 2 rfl ?_
      refine g_bipush (v := (12 : Int32)) B dX5_fewestFrom_20 (by decide) ?_
      refine g_ncmp_ge (tgt := 34) B k 12 rfl rfl (by omega) (by omega) dX5_fewestFrom_22 (by decide) (fun c3 => ?_) (fun c3 => ?_)
      · refine g_iload B dX5_fewestFrom_34 5 rfl ?_
        exact g_iret_p B hr rfl hlocks () (by rw [ks_ff_s, if_neg c1, if_pos (by omega)]) (trivial) dX5_fewestFrom_36
      · refine g_iload B dX5_fewestFrom_25 4 rfl ?_
        refine g_iconst (v := (1 : Int32)) B dX5_fewestFrom_27 (by decide) ?_
        refine g_iadd (v := nI (u + 1)) B dX5_fewestFrom_28 (nI_add u 1) ?_
        refine g_iload B dX5_fewestFrom_29 5 rfl ?_
        refine g_ncmp_lt (tgt := 37) B (u + 1) b rfl rfl (by omega) (by omega) dX5_fewestFrom_31 (by decide) (fun c4 => ?_) (fun c4 => ?_)
        · refine g_iload B dX5_fewestFrom_37 5 rfl ?_
          refine g_istore (lv' := [(0, .ref a3), (1, .int (nI n)), (2, .int (nI k)), (3, .long o), (5, .int (nI u)), (6, .int (nI b)), (7, .int (nI b))]) B dX5_fewestFrom_39 (by decide) [1, 2, 3, 4, 5, 6, 0] rfl ?_
          refine g_aload_n B dX5_fewestFrom_41 0 rfl ?_
          refine g_iload_n B dX5_fewestFrom_42 2 rfl ?_
          refine g_lald B hK 0 1 rfl rfl k rfl (by omega) (by omega) (v := (F k)) rfl dX5_fewestFrom_43 ?_
          refine g_lload_n B dX5_fewestFrom_44 3 rfl ?_
          refine g_land (v := ((F k) &&& o)) B dX5_fewestFrom_45 (rfl) ?_
          refine g_lconst (v := (0 : Int64)) B dX5_fewestFrom_46 rfl ?_
          refine g_lcmp (v := (lg_cmp ((F k) &&& o) (0 : Int64))) B dX5_fewestFrom_47 rfl ?_
          refine g_lif_eq (tgt := 76) B dX5_fewestFrom_48 (by decide) (fun c5 => ?_) (fun c5 => ?_)
          · refine g_aload_n B dX5_fewestFrom_76 0 rfl ?_
            refine g_iload_n B dX5_fewestFrom_77 1 rfl ?_
            refine g_iload_n B dX5_fewestFrom_78 2 rfl ?_
            refine g_iconst (v := (1 : Int32)) B dX5_fewestFrom_79 (by decide) ?_
            refine g_iadd (v := nI (k + 1)) B dX5_fewestFrom_80 (nI_add k 1) ?_
            refine g_lload_n B dX5_fewestFrom_81 3 rfl ?_
            refine g_iload B dX5_fewestFrom_82 4 rfl ?_
            refine g_iload B dX5_fewestFrom_84 6 rfl ?_
            refine g_callP (g_runS B (PM.met (k_ff_1 l (D := D) (cI := cI) (cL := cL) (cZ := cZ) (cQ := cQ) a3 F n (k + 1) o u b (by first | assumption | omega) (by first | assumption | omega) (by first | assumption | omega) (by first | assumption | omega) (by first | assumption | omega))) (gPp.pre (av := [.ref a3, .int (nI n), .int (nI (k + 1)), .long o, .int (nI u), .int (nI b)]) (wc := [(a3, .inl (cL, 41, .inr (.inl F)))]) hK hN [0] rfl (by decide)) gX5_fewestFrom_X5_fewestFrom rfl kd_X5_fewestFrom ⟨by decide, by decide⟩ (st := []) rfl (Nat.le_of_ble_eq_true rfl) dX5_fewestFrom_86 ⟨by decide, by decide⟩) (fun u hu => ?_)
            exact g_iret_p B hr rfl hlocks () (by rw [ks_ff_s, if_neg c1, if_neg (by omega), if_pos c5]) (trivial) dX5_fewestFrom_89
          · refine g_aload_n B dX5_fewestFrom_51 0 rfl ?_
            refine g_iload_n B dX5_fewestFrom_52 1 rfl ?_
            refine g_iload_n B dX5_fewestFrom_53 2 rfl ?_
            refine g_iconst (v := (1 : Int32)) B dX5_fewestFrom_54 (by decide) ?_
            refine g_iadd (v := nI (k + 1)) B dX5_fewestFrom_55 (nI_add k 1) ?_
            refine g_lload_n B dX5_fewestFrom_56 3 rfl ?_
            refine g_aload_n B dX5_fewestFrom_57 0 rfl ?_
            refine g_iload_n B dX5_fewestFrom_58 2 rfl ?_
            refine g_lald B hK 0 1 rfl rfl k rfl (by omega) (by omega) (v := (F k)) rfl dX5_fewestFrom_59 ?_
            refine g_ldc2 (v := (-1 : Int64)) B dX5_fewestFrom_60 (List.mem_of_getElem? (i := 5) rfl) ?_
            refine g_lxor (v := ((F k) ^^^ (-1 : Int64))) B dX5_fewestFrom_63 (rfl) ?_
            refine g_land (v := (o &&& ((F k) ^^^ (-1 : Int64)))) B dX5_fewestFrom_64 (rfl) ?_
            refine g_iload B dX5_fewestFrom_65 4 rfl ?_
            refine g_iconst (v := (1 : Int32)) B dX5_fewestFrom_67 (by decide) ?_
            refine g_iadd (v := nI (u + 1)) B dX5_fewestFrom_68 (nI_add u 1) ?_
            refine g_iload B dX5_fewestFrom_69 6 rfl ?_
            refine g_callP (g_runS B (PM.met (k_ff_1 l (D := D) (cI := cI) (cL := cL) (cZ := cZ) (cQ := cQ) a3 F n (k + 1) (o &&& ((F k) ^^^ (-1 : Int64))) (u + 1) b (by first | assumption | omega) (by first | assumption | omega) (by first | assumption | omega) (by first | assumption | omega) (by first | assumption | omega))) (gPp.pre (av := [.ref a3, .int (nI n), .int (nI (k + 1)), .long (o &&& ((F k) ^^^ (-1 : Int64))), .int (nI (u + 1)), .int (nI b)]) (wc := [(a3, .inl (cL, 41, .inr (.inl F)))]) hK hN [0] rfl (by decide)) gX5_fewestFrom_X5_fewestFrom rfl kd_X5_fewestFrom ⟨by decide, by decide⟩ (st := []) rfl (Nat.le_of_ble_eq_true rfl) dX5_fewestFrom_71 ⟨by decide, by decide⟩) (fun u hu => ?_)
            refine g_istore (lv' := [(0, .ref a3), (1, .int (nI n)), (2, .int (nI k)), (3, .long o), (5, .int (nI u)), (6, .int (nI b)), (7, .int (nI (ks_ff F n 1 k + 1 (o &&& ((F k) ^^^ (-1 : Int64))) u + 1 b)))]) B dX5_fewestFrom_74 (by decide) [1, 2, 3, 4, 5, 6, 0] rfl ?_
            refine g_aload_n B dX5_fewestFrom_76 0 rfl ?_
            refine g_iload_n B dX5_fewestFrom_77 1 rfl ?_
            refine g_iload_n B dX5_fewestFrom_78 2 rfl ?_
            refine g_iconst (v := (1 : Int32)) B dX5_fewestFrom_79 (by decide) ?_
            refine g_iadd (v := nI (k + 1)) B dX5_fewestFrom_80 (nI_add k 1) ?_
            refine g_lload_n B dX5_fewestFrom_81 3 rfl ?_
            refine g_iload B dX5_fewestFrom_82 4 rfl ?_
            refine g_iload B dX5_fewestFrom_84 6 rfl ?_
            refine g_callP (g_runS B (PM.met (k_ff_1 l (D := D) (cI := cI) (cL := cL) (cZ := cZ) (cQ := cQ) a3 F n (k + 1) o u (ks_ff F n 1 k + 1 (o &&& ((F k) ^^^ (-1 : Int64))) u + 1 b) (by first | assumption | omega) (by first | assumption | omega) (by first | assumption | omega) (by first | assumption | omega) (by first | assumption | omega))) (gPp.pre (av := [.ref a3, .int (nI n), .int (nI (k + 1)), .long o, .int (nI u), .int (nI (ks_ff F n 1 k + 1 (o &&& ((F k) ^^^ (-1 : Int64))) u + 1 b))]) (wc := [(a3, .inl (cL, 41, .inr (.inl F)))]) hK hN [0] rfl (by decide)) gX5_fewestFrom_X5_fewestFrom rfl kd_X5_fewestFrom ⟨by decide, by decide⟩ (st := []) rfl (Nat.le_of_ble_eq_true rfl) dX5_fewestFrom_86 ⟨by decide, by decide⟩) (fun u hu => ?_)
            exact g_iret_p B hr rfl hlocks () (by rw [ks_ff_s, if_neg c1, if_neg (by omega), if_neg c5]) (trivial) dX5_fewestFrom_89
        · refine g_iload B dX5_fewestFrom_34 5 rfl ?_
          exact g_iret_p B hr rfl hlocks () (by rw [ks_ff_s, if_neg c1, if_pos (by omega)]) (trivial) dX5_fewestFrom_36
  · refine g_iload B dX5_fewestFrom_6 4 rfl ?_
    refine g_iload B dX5_fewestFrom_8 5 rfl ?_
    refine g_mmin (v := (if nI b < nI u then nI b else nI u)) B (List.mem_of_getElem? (i := 1) rfl) (List.mem_of_getElem? (i := 2) rfl) (List.mem_of_getElem? (i := 3) rfl) (List.mem_of_getElem? (i := 4) rfl) (by decide) (by decide) (by decide) (by decide) dX5_fewestFrom_10 (rfl) ?_
    refine g_eqi (y := nI (if b < u then b else u)) (ks_minN (by omega) (by omega)) ?_
    exact g_iret_p B hr rfl hlocks () (by rw [ks_ff_s, if_pos c1]) (trivial) dX5_fewestFrom_13

set_option maxHeartbeats 4000000 in
set_option maxRecDepth 100000 in
theorem k_ff_3 (l : Launch) {D : va_G} {cI cL cZ cQ : ClassId} (a3 : Nat) (F : Nat → Int64) (n : Nat) (k : Nat) (o : Int64) (u : Nat) (b : Nat) (h1 : n ≤ 12) (h2 : n ≤ k + 3) (h3 : k ≤ 12) (h4 : u ≤ k) (h5 : b ≤ 12) : PM l yX5_fewestFrom wsX5_fewestFrom ({ frames := 4, cells := 0, slots := 0, locals := 102 } : Room) D (gTys cI cL cZ cQ) [.ref a3, .int (nI n), .int (nI k), .long o, .int (nI u), .int (nI b)] [(a3, .inl (cL, 41, .inr (.inl F)))] (fun (_ : Unit) => True) (fun (_ : Unit) => some (.int (nI (ks_ff F n 3 k o u b)))) := by
  refine PM.ofG cX5_fewestFrom 8 (some .int) (by decide +kernel) rfl (Nat.le_of_ble_eq_true rfl) ?_
  intro p e s m below meth c B hr hlocks hname hK hN
  have w1 := ks_ff_le F n 2 (k + 1) (o &&& (F k ^^^ (-1))) (u + 1) b
  refine g_lload_n B dX5_fewestFrom_0 3 rfl ?_
  refine g_lconst (v := (0 : Int64)) B dX5_fewestFrom_1 rfl ?_
  refine g_lcmp (v := (lg_cmp o (0 : Int64))) B dX5_fewestFrom_2 rfl ?_
  refine g_lif_ne (tgt := 14) B dX5_fewestFrom_3 (by decide) (fun c1 => ?_) (fun c1 => ?_)
  · refine g_iload_n B dX5_fewestFrom_14 2 rfl ?_
    refine g_iload_n B dX5_fewestFrom_15 1 rfl ?_
    refine g_ncmp_ge (tgt := 34) B k n rfl rfl (by omega) (by omega) dX5_fewestFrom_16 (by decide) (fun c2 => ?_) (fun c2 => ?_)
    · refine g_iload B dX5_fewestFrom_34 5 rfl ?_
      exact g_iret_p B hr rfl hlocks () (by rw [ks_ff_s, if_neg c1, if_pos (by omega)]) (trivial) dX5_fewestFrom_36
    · refine g_iload_n B dX5_fewestFrom_19 2 rfl ?_
      refine g_bipush (v := (12 : Int32)) B dX5_fewestFrom_20 (by decide) ?_
      refine g_ncmp_ge (tgt := 34) B k 12 rfl rfl (by omega) (by omega) dX5_fewestFrom_22 (by decide) (fun c3 => ?_) (fun c3 => ?_)
      · refine g_iload B dX5_fewestFrom_34 5 rfl ?_
        exact g_iret_p B hr rfl hlocks () (by rw [ks_ff_s, if_neg c1, if_pos (by omega)]) (trivial) dX5_fewestFrom_36
      · refine g_iload B dX5_fewestFrom_25 4 rfl ?_
        refine g_iconst (v := (1 : Int32)) B dX5_fewestFrom_27 (by decide) ?_
        refine g_iadd (v := nI (u + 1)) B dX5_fewestFrom_28 (nI_add u 1) ?_
        refine g_iload B dX5_fewestFrom_29 5 rfl ?_
        refine g_ncmp_lt (tgt := 37) B (u + 1) b rfl rfl (by omega) (by omega) dX5_fewestFrom_31 (by decide) (fun c4 => ?_) (fun c4 => ?_)
        · refine g_iload B dX5_fewestFrom_37 5 rfl ?_
          refine g_istore (lv' := [(0, .ref a3), (1, .int (nI n)), (2, .int (nI k)), (3, .long o), (5, .int (nI u)), (6, .int (nI b)), (7, .int (nI b))]) B dX5_fewestFrom_39 (by decide) [1, 2, 3, 4, 5, 6, 0] rfl ?_
          refine g_aload_n B dX5_fewestFrom_41 0 rfl ?_
          refine g_iload_n B dX5_fewestFrom_42 2 rfl ?_
          refine g_lald B hK 0 1 rfl rfl k rfl (by omega) (by omega) (v := (F k)) rfl dX5_fewestFrom_43 ?_
          refine g_lload_n B dX5_fewestFrom_44 3 rfl ?_
          refine g_land (v := ((F k) &&& o)) B dX5_fewestFrom_45 (rfl) ?_
          refine g_lconst (v := (0 : Int64)) B dX5_fewestFrom_46 rfl ?_
          refine g_lcmp (v := (lg_cmp ((F k) &&& o) (0 : Int64))) B dX5_fewestFrom_47 rfl ?_
          refine g_lif_eq (tgt := 76) B dX5_fewestFrom_48 (by decide) (fun c5 => ?_) (fun c5 => ?_)
          · refine g_aload_n B dX5_fewestFrom_76 0 rfl ?_
            refine g_iload_n B dX5_fewestFrom_77 1 rfl ?_
            refine g_iload_n B dX5_fewestFrom_78 2 rfl ?_
            refine g_iconst (v := (1 : Int32)) B dX5_fewestFrom_79 (by decide) ?_
            refine g_iadd (v := nI (k + 1)) B dX5_fewestFrom_80 (nI_add k 1) ?_
            refine g_lload_n B dX5_fewestFrom_81 3 rfl ?_
            refine g_iload B dX5_fewestFrom_82 4 rfl ?_
            refine g_iload B dX5_fewestFrom_84 6 rfl ?_
            refine g_callP (g_runS B (PM.met (k_ff_2 l (D := D) (cI := cI) (cL := cL) (cZ := cZ) (cQ := cQ) a3 F n (k + 1) o u b (by first | assumption | omega) (by first | assumption | omega) (by first | assumption | omega) (by first | assumption | omega) (by first | assumption | omega))) (gPp.pre (av := [.ref a3, .int (nI n), .int (nI (k + 1)), .long o, .int (nI u), .int (nI b)]) (wc := [(a3, .inl (cL, 41, .inr (.inl F)))]) hK hN [0] rfl (by decide)) gX5_fewestFrom_X5_fewestFrom rfl kd_X5_fewestFrom ⟨by decide, by decide⟩ (st := []) rfl (Nat.le_of_ble_eq_true rfl) dX5_fewestFrom_86 ⟨by decide, by decide⟩) (fun u hu => ?_)
            exact g_iret_p B hr rfl hlocks () (by rw [ks_ff_s, if_neg c1, if_neg (by omega), if_pos c5]) (trivial) dX5_fewestFrom_89
          · refine g_aload_n B dX5_fewestFrom_51 0 rfl ?_
            refine g_iload_n B dX5_fewestFrom_52 1 rfl ?_
            refine g_iload_n B dX5_fewestFrom_53 2 rfl ?_
            refine g_iconst (v := (1 : Int32)) B dX5_fewestFrom_54 (by decide) ?_
            refine g_iadd (v := nI (k + 1)) B dX5_fewestFrom_55 (nI_add k 1) ?_
            refine g_lload_n B dX5_fewestFrom_56 3 rfl ?_
            refine g_aload_n B dX5_fewestFrom_57 0 rfl ?_
            refine g_iload_n B dX5_fewestFrom_58 2 rfl ?_
            refine g_lald B hK 0 1 rfl rfl k rfl (by omega) (by omega) (v := (F k)) rfl dX5_fewestFrom_59 ?_
            refine g_ldc2 (v := (-1 : Int64)) B dX5_fewestFrom_60 (List.mem_of_getElem? (i := 5) rfl) ?_
            refine g_lxor (v := ((F k) ^^^ (-1 : Int64))) B dX5_fewestFrom_63 (rfl) ?_
            refine g_land (v := (o &&& ((F k) ^^^ (-1 : Int64)))) B dX5_fewestFrom_64 (rfl) ?_
            refine g_iload B dX5_fewestFrom_65 4 rfl ?_
            refine g_iconst (v := (1 : Int32)) B dX5_fewestFrom_67 (by decide) ?_
            refine g_iadd (v := nI (u + 1)) B dX5_fewestFrom_68 (nI_add u 1) ?_
            refine g_iload B dX5_fewestFrom_69 6 rfl ?_
            refine g_callP (g_runS B (PM.met (k_ff_2 l (D := D) (cI := cI) (cL := cL) (cZ := cZ) (cQ := cQ) a3 F n (k + 1) (o &&& ((F k) ^^^ (-1 : Int64))) (u + 1) b (by first | assumption | omega) (by first | assumption | omega) (by first | assumption | omega) (by first | assumption | omega) (by first | assumption | omega))) (gPp.pre (av := [.ref a3, .int (nI n), .int (nI (k + 1)), .long (o &&& ((F k) ^^^ (-1 : Int64))), .int (nI (u + 1)), .int (nI b)]) (wc := [(a3, .inl (cL, 41, .inr (.inl F)))]) hK hN [0] rfl (by decide)) gX5_fewestFrom_X5_fewestFrom rfl kd_X5_fewestFrom ⟨by decide, by decide⟩ (st := []) rfl (Nat.le_of_ble_eq_true rfl) dX5_fewestFrom_71 ⟨by decide, by decide⟩) (fun u hu => ?_)
            refine g_istore (lv' := [(0, .ref a3), (1, .int (nI n)), (2, .int (nI k)), (3, .long o), (5, .int (nI u)), (6, .int (nI b)), (7, .int (nI (ks_ff F n 2 k + 1 (o &&& ((F k) ^^^ (-1 : Int64))) u + 1 b)))]) B dX5_fewestFrom_74 (by decide) [1, 2, 3, 4, 5, 6, 0] rfl ?_
            refine g_aload_n B dX5_fewestFrom_76 0 rfl ?_
            refine g_iload_n B dX5_fewestFrom_77 1 rfl ?_
            refine g_iload_n B dX5_fewestFrom_78 2 rfl ?_
            refine g_iconst (v := (1 : Int32)) B dX5_fewestFrom_79 (by decide) ?_
            refine g_iadd (v := nI (k + 1)) B dX5_fewestFrom_80 (nI_add k 1) ?_
            refine g_lload_n B dX5_fewestFrom_81 3 rfl ?_
            refine g_iload B dX5_fewestFrom_82 4 rfl ?_
            refine g_iload B dX5_fewestFrom_84 6 rfl ?_
            refine g_callP (g_runS B (PM.met (k_ff_2 l (D := D) (cI := cI) (cL := cL) (cZ := cZ) (cQ := cQ) a3 F n (k + 1) o u (ks_ff F n 2 k + 1 (o &&& ((F k) ^^^ (-1 : Int64))) u + 1 b) (by first | assumption | omega) (by first | assumption | omega) (by first | assumption | omega) (by first | assumption | omega) (by first | assumption | omega))) (gPp.pre (av := [.ref a3, .int (nI n), .int (nI (k + 1)), .long o, .int (nI u), .int (nI (ks_ff F n 2 k + 1 (o &&& ((F k) ^^^ (-1 : Int64))) u + 1 b))]) (wc := [(a3, .inl (cL, 41, .inr (.inl F)))]) hK hN [0] rfl (by decide)) gX5_fewestFrom_X5_fewestFrom rfl kd_X5_fewestFrom ⟨by decide, by decide⟩ (st := []) rfl (Nat.le_of_ble_eq_true rfl) dX5_fewestFrom_86 ⟨by decide, by decide⟩) (fun u hu => ?_)
            exact g_iret_p B hr rfl hlocks () (by rw [ks_ff_s, if_neg c1, if_neg (by omega), if_neg c5]) (trivial) dX5_fewestFrom_89
        · refine g_iload B dX5_fewestFrom_34 5 rfl ?_
          exact g_iret_p B hr rfl hlocks () (by rw [ks_ff_s, if_neg c1, if_pos (by omega)]) (trivial) dX5_fewestFrom_36
  · refine g_iload B dX5_fewestFrom_6 4 rfl ?_
    refine g_iload B dX5_fewestFrom_8 5 rfl ?_
    refine g_mmin (v := (if nI b < nI u then nI b else nI u)) B (List.mem_of_getElem? (i := 1) rfl) (List.mem_of_getElem? (i := 2) rfl) (List.mem_of_getElem? (i := 3) rfl) (List.mem_of_getElem? (i := 4) rfl) (by decide) (by decide) (by decide) (by decide) dX5_fewestFrom_10 (rfl) ?_
    refine g_eqi (y := nI (if b < u then b else u)) (ks_minN (by omega) (by omega)) ?_
    exact g_iret_p B hr rfl hlocks () (by rw [ks_ff_s, if_pos c1]) (trivial) dX5_fewestFrom_13

set_option maxHeartbeats 4000000 in
set_option maxRecDepth 100000 in
theorem k_ff_4 (l : Launch) {D : va_G} {cI cL cZ cQ : ClassId} (a3 : Nat) (F : Nat → Int64) (n : Nat) (k : Nat) (o : Int64) (u : Nat) (b : Nat) (h1 : n ≤ 12) (h2 : n ≤ k + 4) (h3 : k ≤ 12) (h4 : u ≤ k) (h5 : b ≤ 12) : PM l yX5_fewestFrom wsX5_fewestFrom ({ frames := 5, cells := 0, slots := 0, locals := 129 } : Room) D (gTys cI cL cZ cQ) [.ref a3, .int (nI n), .int (nI k), .long o, .int (nI u), .int (nI b)] [(a3, .inl (cL, 41, .inr (.inl F)))] (fun (_ : Unit) => True) (fun (_ : Unit) => some (.int (nI (ks_ff F n 4 k o u b)))) := by
  refine PM.ofG cX5_fewestFrom 8 (some .int) (by decide +kernel) rfl (Nat.le_of_ble_eq_true rfl) ?_
  intro p e s m below meth c B hr hlocks hname hK hN
  have w1 := ks_ff_le F n 3 (k + 1) (o &&& (F k ^^^ (-1))) (u + 1) b
  refine g_lload_n B dX5_fewestFrom_0 3 rfl ?_
  refine g_lconst (v := (0 : Int64)) B dX5_fewestFrom_1 rfl ?_
  refine g_lcmp (v := (lg_cmp o (0 : Int64))) B dX5_fewestFrom_2 rfl ?_
  refine g_lif_ne (tgt := 14) B dX5_fewestFrom_3 (by decide) (fun c1 => ?_) (fun c1 => ?_)
  · refine g_iload_n B dX5_fewestFrom_14 2 rfl ?_
    refine g_iload_n B dX5_fewestFrom_15 1 rfl ?_
    refine g_ncmp_ge (tgt := 34) B k n rfl rfl (by omega) (by omega) dX5_fewestFrom_16 (by decide) (fun c2 => ?_) (fun c2 => ?_)
    · refine g_iload B dX5_fewestFrom_34 5 rfl ?_
      exact g_iret_p B hr rfl hlocks () (by rw [ks_ff_s, if_neg c1, if_pos (by omega)]) (trivial) dX5_fewestFrom_36
    · refine g_iload_n B dX5_fewestFrom_19 2 rfl ?_
      refine g_bipush (v := (12 : Int32)) B dX5_fewestFrom_20 (by decide) ?_
      refine g_ncmp_ge (tgt := 34) B k 12 rfl rfl (by omega) (by omega) dX5_fewestFrom_22 (by decide) (fun c3 => ?_) (fun c3 => ?_)
      · refine g_iload B dX5_fewestFrom_34 5 rfl ?_
        exact g_iret_p B hr rfl hlocks () (by rw [ks_ff_s, if_neg c1, if_pos (by omega)]) (trivial) dX5_fewestFrom_36
      · refine g_iload B dX5_fewestFrom_25 4 rfl ?_
        refine g_iconst (v := (1 : Int32)) B dX5_fewestFrom_27 (by decide) ?_
        refine g_iadd (v := nI (u + 1)) B dX5_fewestFrom_28 (nI_add u 1) ?_
        refine g_iload B dX5_fewestFrom_29 5 rfl ?_
        refine g_ncmp_lt (tgt := 37) B (u + 1) b rfl rfl (by omega) (by omega) dX5_fewestFrom_31 (by decide) (fun c4 => ?_) (fun c4 => ?_)
        · refine g_iload B dX5_fewestFrom_37 5 rfl ?_
          refine g_istore (lv' := [(0, .ref a3), (1, .int (nI n)), (2, .int (nI k)), (3, .long o), (5, .int (nI u)), (6, .int (nI b)), (7, .int (nI b))]) B dX5_fewestFrom_39 (by decide) [1, 2, 3, 4, 5, 6, 0] rfl ?_
          refine g_aload_n B dX5_fewestFrom_41 0 rfl ?_
          refine g_iload_n B dX5_fewestFrom_42 2 rfl ?_
          refine g_lald B hK 0 1 rfl rfl k rfl (by omega) (by omega) (v := (F k)) rfl dX5_fewestFrom_43 ?_
          refine g_lload_n B dX5_fewestFrom_44 3 rfl ?_
          refine g_land (v := ((F k) &&& o)) B dX5_fewestFrom_45 (rfl) ?_
          refine g_lconst (v := (0 : Int64)) B dX5_fewestFrom_46 rfl ?_
          refine g_lcmp (v := (lg_cmp ((F k) &&& o) (0 : Int64))) B dX5_fewestFrom_47 rfl ?_
          refine g_lif_eq (tgt := 76) B dX5_fewestFrom_48 (by decide) (fun c5 => ?_) (fun c5 => ?_)
          · refine g_aload_n B dX5_fewestFrom_76 0 rfl ?_
            refine g_iload_n B dX5_fewestFrom_77 1 rfl ?_
            refine g_iload_n B dX5_fewestFrom_78 2 rfl ?_
            refine g_iconst (v := (1 : Int32)) B dX5_fewestFrom_79 (by decide) ?_
            refine g_iadd (v := nI (k + 1)) B dX5_fewestFrom_80 (nI_add k 1) ?_
            refine g_lload_n B dX5_fewestFrom_81 3 rfl ?_
            refine g_iload B dX5_fewestFrom_82 4 rfl ?_
            refine g_iload B dX5_fewestFrom_84 6 rfl ?_
            refine g_callP (g_runS B (PM.met (k_ff_3 l (D := D) (cI := cI) (cL := cL) (cZ := cZ) (cQ := cQ) a3 F n (k + 1) o u b (by first | assumption | omega) (by first | assumption | omega) (by first | assumption | omega) (by first | assumption | omega) (by first | assumption | omega))) (gPp.pre (av := [.ref a3, .int (nI n), .int (nI (k + 1)), .long o, .int (nI u), .int (nI b)]) (wc := [(a3, .inl (cL, 41, .inr (.inl F)))]) hK hN [0] rfl (by decide)) gX5_fewestFrom_X5_fewestFrom rfl kd_X5_fewestFrom ⟨by decide, by decide⟩ (st := []) rfl (Nat.le_of_ble_eq_true rfl) dX5_fewestFrom_86 ⟨by decide, by decide⟩) (fun u hu => ?_)
            exact g_iret_p B hr rfl hlocks () (by rw [ks_ff_s, if_neg c1, if_neg (by omega), if_pos c5]) (trivial) dX5_fewestFrom_89
          · refine g_aload_n B dX5_fewestFrom_51 0 rfl ?_
            refine g_iload_n B dX5_fewestFrom_52 1 rfl ?_
            refine g_iload_n B dX5_fewestFrom_53 2 rfl ?_
            refine g_iconst (v := (1 : Int32)) B dX5_fewestFrom_54 (by decide) ?_
            refine g_iadd (v := nI (k + 1)) B dX5_fewestFrom_55 (nI_add k 1) ?_
            refine g_lload_n B dX5_fewestFrom_56 3 rfl ?_
            refine g_aload_n B dX5_fewestFrom_57 0 rfl ?_
            refine g_iload_n B dX5_fewestFrom_58 2 rfl ?_
            refine g_lald B hK 0 1 rfl rfl k rfl (by omega) (by omega) (v := (F k)) rfl dX5_fewestFrom_59 ?_
            refine g_ldc2 (v := (-1 : Int64)) B dX5_fewestFrom_60 (List.mem_of_getElem? (i := 5) rfl) ?_
            refine g_lxor (v := ((F k) ^^^ (-1 : Int64))) B dX5_fewestFrom_63 (rfl) ?_
            refine g_land (v := (o &&& ((F k) ^^^ (-1 : Int64)))) B dX5_fewestFrom_64 (rfl) ?_
            refine g_iload B dX5_fewestFrom_65 4 rfl ?_
            refine g_iconst (v := (1 : Int32)) B dX5_fewestFrom_67 (by decide) ?_
            refine g_iadd (v := nI (u + 1)) B dX5_fewestFrom_68 (nI_add u 1) ?_
            refine g_iload B dX5_fewestFrom_69 6 rfl ?_
            refine g_callP (g_runS B (PM.met (k_ff_3 l (D := D) (cI := cI) (cL := cL) (cZ := cZ) (cQ := cQ) a3 F n (k + 1) (o &&& ((F k) ^^^ (-1 : Int64))) (u + 1) b (by first | assumption | omega) (by first | assumption | omega) (by first | assumption | omega) (by first | assumption | omega) (by first | assumption | omega))) (gPp.pre (av := [.ref a3, .int (nI n), .int (nI (k + 1)), .long (o &&& ((F k) ^^^ (-1 : Int64))), .int (nI (u + 1)), .int (nI b)]) (wc := [(a3, .inl (cL, 41, .inr (.inl F)))]) hK hN [0] rfl (by decide)) gX5_fewestFrom_X5_fewestFrom rfl kd_X5_fewestFrom ⟨by decide, by decide⟩ (st := []) rfl (Nat.le_of_ble_eq_true rfl) dX5_fewestFrom_71 ⟨by decide, by decide⟩) (fun u hu => ?_)
            refine g_istore (lv' := [(0, .ref a3), (1, .int (nI n)), (2, .int (nI k)), (3, .long o), (5, .int (nI u)), (6, .int (nI b)), (7, .int (nI (ks_ff F n 3 k + 1 (o &&& ((F k) ^^^ (-1 : Int64))) u + 1 b)))]) B dX5_fewestFrom_74 (by decide) [1, 2, 3, 4, 5, 6, 0] rfl ?_
            refine g_aload_n B dX5_fewestFrom_76 0 rfl ?_
            refine g_iload_n B dX5_fewestFrom_77 1 rfl ?_
            refine g_iload_n B dX5_fewestFrom_78 2 rfl ?_
            refine g_iconst (v := (1 : Int32)) B dX5_fewestFrom_79 (by decide) ?_
            refine g_iadd (v := nI (k + 1)) B dX5_fewestFrom_80 (nI_add k 1) ?_
            refine g_lload_n B dX5_fewestFrom_81 3 rfl ?_
            refine g_iload B dX5_fewestFrom_82 4 rfl ?_
            refine g_iload B dX5_fewestFrom_84 6 rfl ?_
            refine g_callP (g_runS B (PM.met (k_ff_3 l (D := D) (cI := cI) (cL := cL) (cZ := cZ) (cQ := cQ) a3 F n (k + 1) o u (ks_ff F n 3 k + 1 (o &&& ((F k) ^^^ (-1 : Int64))) u + 1 b) (by first | assumption | omega) (by first | assumption | omega) (by first | assumption | omega) (by first | assumption | omega) (by first | assumption | omega))) (gPp.pre (av := [.ref a3, .int (nI n), .int (nI (k + 1)), .long o, .int (nI u), .int (nI (ks_ff F n 3 k + 1 (o &&& ((F k) ^^^ (-1 : Int64))) u + 1 b))]) (wc := [(a3, .inl (cL, 41, .inr (.inl F)))]) hK hN [0] rfl (by decide)) gX5_fewestFrom_X5_fewestFrom rfl kd_X5_fewestFrom ⟨by decide, by decide⟩ (st := []) rfl (Nat.le_of_ble_eq_true rfl) dX5_fewestFrom_86 ⟨by decide, by decide⟩) (fun u hu => ?_)
            exact g_iret_p B hr rfl hlocks () (by rw [ks_ff_s, if_neg c1, if_neg (by omega), if_neg c5]) (trivial) dX5_fewestFrom_89
        · refine g_iload B dX5_fewestFrom_34 5 rfl ?_
          exact g_iret_p B hr rfl hlocks () (by rw [ks_ff_s, if_neg c1, if_pos (by omega)]) (trivial) dX5_fewestFrom_36
  · refine g_iload B dX5_fewestFrom_6 4 rfl ?_
    refine g_iload B dX5_fewestFrom_8 5 rfl ?_
    refine g_mmin (v := (if nI b < nI u then nI b else nI u)) B (List.mem_of_getElem? (i := 1) rfl) (List.mem_of_getElem? (i := 2) rfl) (List.mem_of_getElem? (i := 3) rfl) (List.mem_of_getElem? (i := 4) rfl) (by decide) (by decide) (by decide) (by decide) dX5_fewestFrom_10 (rfl) ?_
    refine g_eqi (y := nI (if b < u then b else u)) (ks_minN (by omega) (by omega)) ?_
    exact g_iret_p B hr rfl hlocks () (by rw [ks_ff_s, if_pos c1]) (trivial) dX5_fewestFrom_13

set_option maxHeartbeats 4000000 in
set_option maxRecDepth 100000 in
theorem k_ff_5 (l : Launch) {D : va_G} {cI cL cZ cQ : ClassId} (a3 : Nat) (F : Nat → Int64) (n : Nat) (k : Nat) (o : Int64) (u : Nat) (b : Nat) (h1 : n ≤ 12) (h2 : n ≤ k + 5) (h3 : k ≤ 12) (h4 : u ≤ k) (h5 : b ≤ 12) : PM l yX5_fewestFrom wsX5_fewestFrom ({ frames := 6, cells := 0, slots := 0, locals := 156 } : Room) D (gTys cI cL cZ cQ) [.ref a3, .int (nI n), .int (nI k), .long o, .int (nI u), .int (nI b)] [(a3, .inl (cL, 41, .inr (.inl F)))] (fun (_ : Unit) => True) (fun (_ : Unit) => some (.int (nI (ks_ff F n 5 k o u b)))) := by
  refine PM.ofG cX5_fewestFrom 8 (some .int) (by decide +kernel) rfl (Nat.le_of_ble_eq_true rfl) ?_
  intro p e s m below meth c B hr hlocks hname hK hN
  have w1 := ks_ff_le F n 4 (k + 1) (o &&& (F k ^^^ (-1))) (u + 1) b
  refine g_lload_n B dX5_fewestFrom_0 3 rfl ?_
  refine g_lconst (v := (0 : Int64)) B dX5_fewestFrom_1 rfl ?_
  refine g_lcmp (v := (lg_cmp o (0 : Int64))) B dX5_fewestFrom_2 rfl ?_
  refine g_lif_ne (tgt := 14) B dX5_fewestFrom_3 (by decide) (fun c1 => ?_) (fun c1 => ?_)
  · refine g_iload_n B dX5_fewestFrom_14 2 rfl ?_
    refine g_iload_n B dX5_fewestFrom_15 1 rfl ?_
    refine g_ncmp_ge (tgt := 34) B k n rfl rfl (by omega) (by omega) dX5_fewestFrom_16 (by decide) (fun c2 => ?_) (fun c2 => ?_)
    · refine g_iload B dX5_fewestFrom_34 5 rfl ?_
      exact g_iret_p B hr rfl hlocks () (by rw [ks_ff_s, if_neg c1, if_pos (by omega)]) (trivial) dX5_fewestFrom_36
    · refine g_iload_n B dX5_fewestFrom_19 2 rfl ?_
      refine g_bipush (v := (12 : Int32)) B dX5_fewestFrom_20 (by decide) ?_
      refine g_ncmp_ge (tgt := 34) B k 12 rfl rfl (by omega) (by omega) dX5_fewestFrom_22 (by decide) (fun c3 => ?_) (fun c3 => ?_)
      · refine g_iload B dX5_fewestFrom_34 5 rfl ?_
        exact g_iret_p B hr rfl hlocks () (by rw [ks_ff_s, if_neg c1, if_pos (by omega)]) (trivial) dX5_fewestFrom_36
      · refine g_iload B dX5_fewestFrom_25 4 rfl ?_
        refine g_iconst (v := (1 : Int32)) B dX5_fewestFrom_27 (by decide) ?_
        refine g_iadd (v := nI (u + 1)) B dX5_fewestFrom_28 (nI_add u 1) ?_
        refine g_iload B dX5_fewestFrom_29 5 rfl ?_
        refine g_ncmp_lt (tgt := 37) B (u + 1) b rfl rfl (by omega) (by omega) dX5_fewestFrom_31 (by decide) (fun c4 => ?_) (fun c4 => ?_)
        · refine g_iload B dX5_fewestFrom_37 5 rfl ?_
          refine g_istore (lv' := [(0, .ref a3), (1, .int (nI n)), (2, .int (nI k)), (3, .long o), (5, .int (nI u)), (6, .int (nI b)), (7, .int (nI b))]) B dX5_fewestFrom_39 (by decide) [1, 2, 3, 4, 5, 6, 0] rfl ?_
          refine g_aload_n B dX5_fewestFrom_41 0 rfl ?_
          refine g_iload_n B dX5_fewestFrom_42 2 rfl ?_
          refine g_lald B hK 0 1 rfl rfl k rfl (by omega) (by omega) (v := (F k)) rfl dX5_fewestFrom_43 ?_
          refine g_lload_n B dX5_fewestFrom_44 3 rfl ?_
          refine g_land (v := ((F k) &&& o)) B dX5_fewestFrom_45 (rfl) ?_
          refine g_lconst (v := (0 : Int64)) B dX5_fewestFrom_46 rfl ?_
          refine g_lcmp (v := (lg_cmp ((F k) &&& o) (0 : Int64))) B dX5_fewestFrom_47 rfl ?_
          refine g_lif_eq (tgt := 76) B dX5_fewestFrom_48 (by decide) (fun c5 => ?_) (fun c5 => ?_)
          · refine g_aload_n B dX5_fewestFrom_76 0 rfl ?_
            refine g_iload_n B dX5_fewestFrom_77 1 rfl ?_
            refine g_iload_n B dX5_fewestFrom_78 2 rfl ?_
            refine g_iconst (v := (1 : Int32)) B dX5_fewestFrom_79 (by decide) ?_
            refine g_iadd (v := nI (k + 1)) B dX5_fewestFrom_80 (nI_add k 1) ?_
            refine g_lload_n B dX5_fewestFrom_81 3 rfl ?_
            refine g_iload B dX5_fewestFrom_82 4 rfl ?_
            refine g_iload B dX5_fewestFrom_84 6 rfl ?_
            refine g_callP (g_runS B (PM.met (k_ff_4 l (D := D) (cI := cI) (cL := cL) (cZ := cZ) (cQ := cQ) a3 F n (k + 1) o u b (by first | assumption | omega) (by first | assumption | omega) (by first | assumption | omega) (by first | assumption | omega) (by first | assumption | omega))) (gPp.pre (av := [.ref a3, .int (nI n), .int (nI (k + 1)), .long o, .int (nI u), .int (nI b)]) (wc := [(a3, .inl (cL, 41, .inr (.inl F)))]) hK hN [0] rfl (by decide)) gX5_fewestFrom_X5_fewestFrom rfl kd_X5_fewestFrom ⟨by decide, by decide⟩ (st := []) rfl (Nat.le_of_ble_eq_true rfl) dX5_fewestFrom_86 ⟨by decide, by decide⟩) (fun u hu => ?_)
            exact g_iret_p B hr rfl hlocks () (by rw [ks_ff_s, if_neg c1, if_neg (by omega), if_pos c5]) (trivial) dX5_fewestFrom_89
          · refine g_aload_n B dX5_fewestFrom_51 0 rfl ?_
            refine g_iload_n B dX5_fewestFrom_52 1 rfl ?_
            refine g_iload_n B dX5_fewestFrom_53 2 rfl ?_
            refine g_iconst (v := (1 : Int32)) B dX5_fewestFrom_54 (by decide) ?_
            refine g_iadd (v := nI (k + 1)) B dX5_fewestFrom_55 (nI_add k 1) ?_
            refine g_lload_n B dX5_fewestFrom_56 3 rfl ?_
            refine g_aload_n B dX5_fewestFrom_57 0 rfl ?_
            refine g_iload_n B dX5_fewestFrom_58 2 rfl ?_
            refine g_lald B hK 0 1 rfl rfl k rfl (by omega) (by omega) (v := (F k)) rfl dX5_fewestFrom_59 ?_
            refine g_ldc2 (v := (-1 : Int64)) B dX5_fewestFrom_60 (List.mem_of_getElem? (i := 5) rfl) ?_
            refine g_lxor (v := ((F k) ^^^ (-1 : Int64))) B dX5_fewestFrom_63 (rfl) ?_
            refine g_land (v := (o &&& ((F k) ^^^ (-1 : Int64)))) B dX5_fewestFrom_64 (rfl) ?_
            refine g_iload B dX5_fewestFrom_65 4 rfl ?_
            refine g_iconst (v := (1 : Int32)) B dX5_fewestFrom_67 (by decide) ?_
            refine g_iadd (v := nI (u + 1)) B dX5_fewestFrom_68 (nI_add u 1) ?_
            refine g_iload B dX5_fewestFrom_69 6 rfl ?_
            refine g_callP (g_runS B (PM.met (k_ff_4 l (D := D) (cI := cI) (cL := cL) (cZ := cZ) (cQ := cQ) a3 F n (k + 1) (o &&& ((F k) ^^^ (-1 : Int64))) (u + 1) b (by first | assumption | omega) (by first | assumption | omega) (by first | assumption | omega) (by first | assumption | omega) (by first | assumption | omega))) (gPp.pre (av := [.ref a3, .int (nI n), .int (nI (k + 1)), .long (o &&& ((F k) ^^^ (-1 : Int64))), .int (nI (u + 1)), .int (nI b)]) (wc := [(a3, .inl (cL, 41, .inr (.inl F)))]) hK hN [0] rfl (by decide)) gX5_fewestFrom_X5_fewestFrom rfl kd_X5_fewestFrom ⟨by decide, by decide⟩ (st := []) rfl (Nat.le_of_ble_eq_true rfl) dX5_fewestFrom_71 ⟨by decide, by decide⟩) (fun u hu => ?_)
            refine g_istore (lv' := [(0, .ref a3), (1, .int (nI n)), (2, .int (nI k)), (3, .long o), (5, .int (nI u)), (6, .int (nI b)), (7, .int (nI (ks_ff F n 4 k + 1 (o &&& ((F k) ^^^ (-1 : Int64))) u + 1 b)))]) B dX5_fewestFrom_74 (by decide) [1, 2, 3, 4, 5, 6, 0] rfl ?_
            refine g_aload_n B dX5_fewestFrom_76 0 rfl ?_
            refine g_iload_n B dX5_fewestFrom_77 1 rfl ?_
            refine g_iload_n B dX5_fewestFrom_78 2 rfl ?_
            refine g_iconst (v := (1 : Int32)) B dX5_fewestFrom_79 (by decide) ?_
            refine g_iadd (v := nI (k + 1)) B dX5_fewestFrom_80 (nI_add k 1) ?_
            refine g_lload_n B dX5_fewestFrom_81 3 rfl ?_
            refine g_iload B dX5_fewestFrom_82 4 rfl ?_
            refine g_iload B dX5_fewestFrom_84 6 rfl ?_
            refine g_callP (g_runS B (PM.met (k_ff_4 l (D := D) (cI := cI) (cL := cL) (cZ := cZ) (cQ := cQ) a3 F n (k + 1) o u (ks_ff F n 4 k + 1 (o &&& ((F k) ^^^ (-1 : Int64))) u + 1 b) (by first | assumption | omega) (by first | assumption | omega) (by first | assumption | omega) (by first | assumption | omega) (by first | assumption | omega))) (gPp.pre (av := [.ref a3, .int (nI n), .int (nI (k + 1)), .long o, .int (nI u), .int (nI (ks_ff F n 4 k + 1 (o &&& ((F k) ^^^ (-1 : Int64))) u + 1 b))]) (wc := [(a3, .inl (cL, 41, .inr (.inl F)))]) hK hN [0] rfl (by decide)) gX5_fewestFrom_X5_fewestFrom rfl kd_X5_fewestFrom ⟨by decide, by decide⟩ (st := []) rfl (Nat.le_of_ble_eq_true rfl) dX5_fewestFrom_86 ⟨by decide, by decide⟩) (fun u hu => ?_)
            exact g_iret_p B hr rfl hlocks () (by rw [ks_ff_s, if_neg c1, if_neg (by omega), if_neg c5]) (trivial) dX5_fewestFrom_89
        · refine g_iload B dX5_fewestFrom_34 5 rfl ?_
          exact g_iret_p B hr rfl hlocks () (by rw [ks_ff_s, if_neg c1, if_pos (by omega)]) (trivial) dX5_fewestFrom_36
  · refine g_iload B dX5_fewestFrom_6 4 rfl ?_
    refine g_iload B dX5_fewestFrom_8 5 rfl ?_
    refine g_mmin (v := (if nI b < nI u then nI b else nI u)) B (List.mem_of_getElem? (i := 1) rfl) (List.mem_of_getElem? (i := 2) rfl) (List.mem_of_getElem? (i := 3) rfl) (List.mem_of_getElem? (i := 4) rfl) (by decide) (by decide) (by decide) (by decide) dX5_fewestFrom_10 (rfl) ?_
    refine g_eqi (y := nI (if b < u then b else u)) (ks_minN (by omega) (by omega)) ?_
    exact g_iret_p B hr rfl hlocks () (by rw [ks_ff_s, if_pos c1]) (trivial) dX5_fewestFrom_13

set_option maxHeartbeats 4000000 in
set_option maxRecDepth 100000 in
theorem k_ff_6 (l : Launch) {D : va_G} {cI cL cZ cQ : ClassId} (a3 : Nat) (F : Nat → Int64) (n : Nat) (k : Nat) (o : Int64) (u : Nat) (b : Nat) (h1 : n ≤ 12) (h2 : n ≤ k + 6) (h3 : k ≤ 12) (h4 : u ≤ k) (h5 : b ≤ 12) : PM l yX5_fewestFrom wsX5_fewestFrom ({ frames := 7, cells := 0, slots := 0, locals := 183 } : Room) D (gTys cI cL cZ cQ) [.ref a3, .int (nI n), .int (nI k), .long o, .int (nI u), .int (nI b)] [(a3, .inl (cL, 41, .inr (.inl F)))] (fun (_ : Unit) => True) (fun (_ : Unit) => some (.int (nI (ks_ff F n 6 k o u b)))) := by
  refine PM.ofG cX5_fewestFrom 8 (some .int) (by decide +kernel) rfl (Nat.le_of_ble_eq_true rfl) ?_
  intro p e s m below meth c B hr hlocks hname hK hN
  have w1 := ks_ff_le F n 5 (k + 1) (o &&& (F k ^^^ (-1))) (u + 1) b
  refine g_lload_n B dX5_fewestFrom_0 3 rfl ?_
  refine g_lconst (v := (0 : Int64)) B dX5_fewestFrom_1 rfl ?_
  refine g_lcmp (v := (lg_cmp o (0 : Int64))) B dX5_fewestFrom_2 rfl ?_
  refine g_lif_ne (tgt := 14) B dX5_fewestFrom_3 (by decide) (fun c1 => ?_) (fun c1 => ?_)
  · refine g_iload_n B dX5_fewestFrom_14 2 rfl ?_
    refine g_iload_n B dX5_fewestFrom_15 1 rfl ?_
    refine g_ncmp_ge (tgt := 34) B k n rfl rfl (by omega) (by omega) dX5_fewestFrom_16 (by decide) (fun c2 => ?_) (fun c2 => ?_)
    · refine g_iload B dX5_fewestFrom_34 5 rfl ?_
      exact g_iret_p B hr rfl hlocks () (by rw [ks_ff_s, if_neg c1, if_pos (by omega)]) (trivial) dX5_fewestFrom_36
    · refine g_iload_n B dX5_fewestFrom_19 2 rfl ?_
      refine g_bipush (v := (12 : Int32)) B dX5_fewestFrom_20 (by decide) ?_
      refine g_ncmp_ge (tgt := 34) B k 12 rfl rfl (by omega) (by omega) dX5_fewestFrom_22 (by decide) (fun c3 => ?_) (fun c3 => ?_)
      · refine g_iload B dX5_fewestFrom_34 5 rfl ?_
        exact g_iret_p B hr rfl hlocks () (by rw [ks_ff_s, if_neg c1, if_pos (by omega)]) (trivial) dX5_fewestFrom_36
      · refine g_iload B dX5_fewestFrom_25 4 rfl ?_
        refine g_iconst (v := (1 : Int32)) B dX5_fewestFrom_27 (by decide) ?_
        refine g_iadd (v := nI (u + 1)) B dX5_fewestFrom_28 (nI_add u 1) ?_
        refine g_iload B dX5_fewestFrom_29 5 rfl ?_
        refine g_ncmp_lt (tgt := 37) B (u + 1) b rfl rfl (by omega) (by omega) dX5_fewestFrom_31 (by decide) (fun c4 => ?_) (fun c4 => ?_)
        · refine g_iload B dX5_fewestFrom_37 5 rfl ?_
          refine g_istore (lv' := [(0, .ref a3), (1, .int (nI n)), (2, .int (nI k)), (3, .long o), (5, .int (nI u)), (6, .int (nI b)), (7, .int (nI b))]) B dX5_fewestFrom_39 (by decide) [1, 2, 3, 4, 5, 6, 0] rfl ?_
          refine g_aload_n B dX5_fewestFrom_41 0 rfl ?_
          refine g_iload_n B dX5_fewestFrom_42 2 rfl ?_
          refine g_lald B hK 0 1 rfl rfl k rfl (by omega) (by omega) (v := (F k)) rfl dX5_fewestFrom_43 ?_
          refine g_lload_n B dX5_fewestFrom_44 3 rfl ?_
          refine g_land (v := ((F k) &&& o)) B dX5_fewestFrom_45 (rfl) ?_
          refine g_lconst (v := (0 : Int64)) B dX5_fewestFrom_46 rfl ?_
          refine g_lcmp (v := (lg_cmp ((F k) &&& o) (0 : Int64))) B dX5_fewestFrom_47 rfl ?_
          refine g_lif_eq (tgt := 76) B dX5_fewestFrom_48 (by decide) (fun c5 => ?_) (fun c5 => ?_)
          · refine g_aload_n B dX5_fewestFrom_76 0 rfl ?_
            refine g_iload_n B dX5_fewestFrom_77 1 rfl ?_
            refine g_iload_n B dX5_fewestFrom_78 2 rfl ?_
            refine g_iconst (v := (1 : Int32)) B dX5_fewestFrom_79 (by decide) ?_
            refine g_iadd (v := nI (k + 1)) B dX5_fewestFrom_80 (nI_add k 1) ?_
            refine g_lload_n B dX5_fewestFrom_81 3 rfl ?_
            refine g_iload B dX5_fewestFrom_82 4 rfl ?_
            refine g_iload B dX5_fewestFrom_84 6 rfl ?_
            refine g_callP (g_runS B (PM.met (k_ff_5 l (D := D) (cI := cI) (cL := cL) (cZ := cZ) (cQ := cQ) a3 F n (k + 1) o u b (by first | assumption | omega) (by first | assumption | omega) (by first | assumption | omega) (by first | assumption | omega) (by first | assumption | omega))) (gPp.pre (av := [.ref a3, .int (nI n), .int (nI (k + 1)), .long o, .int (nI u), .int (nI b)]) (wc := [(a3, .inl (cL, 41, .inr (.inl F)))]) hK hN [0] rfl (by decide)) gX5_fewestFrom_X5_fewestFrom rfl kd_X5_fewestFrom ⟨by decide, by decide⟩ (st := []) rfl (Nat.le_of_ble_eq_true rfl) dX5_fewestFrom_86 ⟨by decide, by decide⟩) (fun u hu => ?_)
            exact g_iret_p B hr rfl hlocks () (by rw [ks_ff_s, if_neg c1, if_neg (by omega), if_pos c5]) (trivial) dX5_fewestFrom_89
          · refine g_aload_n B dX5_fewestFrom_51 0 rfl ?_
            refine g_iload_n B dX5_fewestFrom_52 1 rfl ?_
            refine g_iload_n B dX5_fewestFrom_53 2 rfl ?_
            refine g_iconst (v := (1 : Int32)) B dX5_fewestFrom_54 (by decide) ?_
            refine g_iadd (v := nI (k + 1)) B dX5_fewestFrom_55 (nI_add k 1) ?_
            refine g_lload_n B dX5_fewestFrom_56 3 rfl ?_
            refine g_aload_n B dX5_fewestFrom_57 0 rfl ?_
            refine g_iload_n B dX5_fewestFrom_58 2 rfl ?_
            refine g_lald B hK 0 1 rfl rfl k rfl (by omega) (by omega) (v := (F k)) rfl dX5_fewestFrom_59 ?_
            refine g_ldc2 (v := (-1 : Int64)) B dX5_fewestFrom_60 (List.mem_of_getElem? (i := 5) rfl) ?_
            refine g_lxor (v := ((F k) ^^^ (-1 : Int64))) B dX5_fewestFrom_63 (rfl) ?_
            refine g_land (v := (o &&& ((F k) ^^^ (-1 : Int64)))) B dX5_fewestFrom_64 (rfl) ?_
            refine g_iload B dX5_fewestFrom_65 4 rfl ?_
            refine g_iconst (v := (1 : Int32)) B dX5_fewestFrom_67 (by decide) ?_
            refine g_iadd (v := nI (u + 1)) B dX5_fewestFrom_68 (nI_add u 1) ?_
            refine g_iload B dX5_fewestFrom_69 6 rfl ?_
            refine g_callP (g_runS B (PM.met (k_ff_5 l (D := D) (cI := cI) (cL := cL) (cZ := cZ) (cQ := cQ) a3 F n (k + 1) (o &&& ((F k) ^^^ (-1 : Int64))) (u + 1) b (by first | assumption | omega) (by first | assumption | omega) (by first | assumption | omega) (by first | assumption | omega) (by first | assumption | omega))) (gPp.pre (av := [.ref a3, .int (nI n), .int (nI (k + 1)), .long (o &&& ((F k) ^^^ (-1 : Int64))), .int (nI (u + 1)), .int (nI b)]) (wc := [(a3, .inl (cL, 41, .inr (.inl F)))]) hK hN [0] rfl (by decide)) gX5_fewestFrom_X5_fewestFrom rfl kd_X5_fewestFrom ⟨by decide, by decide⟩ (st := []) rfl (Nat.le_of_ble_eq_true rfl) dX5_fewestFrom_71 ⟨by decide, by decide⟩) (fun u hu => ?_)
            refine g_istore (lv' := [(0, .ref a3), (1, .int (nI n)), (2, .int (nI k)), (3, .long o), (5, .int (nI u)), (6, .int (nI b)), (7, .int (nI (ks_ff F n 5 k + 1 (o &&& ((F k) ^^^ (-1 : Int64))) u + 1 b)))]) B dX5_fewestFrom_74 (by decide) [1, 2, 3, 4, 5, 6, 0] rfl ?_
            refine g_aload_n B dX5_fewestFrom_76 0 rfl ?_
            refine g_iload_n B dX5_fewestFrom_77 1 rfl ?_
            refine g_iload_n B dX5_fewestFrom_78 2 rfl ?_
            refine g_iconst (v := (1 : Int32)) B dX5_fewestFrom_79 (by decide) ?_
            refine g_iadd (v := nI (k + 1)) B dX5_fewestFrom_80 (nI_add k 1) ?_
            refine g_lload_n B dX5_fewestFrom_81 3 rfl ?_
            refine g_iload B dX5_fewestFrom_82 4 rfl ?_
            refine g_iload B dX5_fewestFrom_84 6 rfl ?_
            refine g_callP (g_runS B (PM.met (k_ff_5 l (D := D) (cI := cI) (cL := cL) (cZ := cZ) (cQ := cQ) a3 F n (k + 1) o u (ks_ff F n 5 k + 1 (o &&& ((F k) ^^^ (-1 : Int64))) u + 1 b) (by first | assumption | omega) (by first | assumption | omega) (by first | assumption | omega) (by first | assumption | omega) (by first | assumption | omega))) (gPp.pre (av := [.ref a3, .int (nI n), .int (nI (k + 1)), .long o, .int (nI u), .int (nI (ks_ff F n 5 k + 1 (o &&& ((F k) ^^^ (-1 : Int64))) u + 1 b))]) (wc := [(a3, .inl (cL, 41, .inr (.inl F)))]) hK hN [0] rfl (by decide)) gX5_fewestFrom_X5_fewestFrom rfl kd_X5_fewestFrom ⟨by decide, by decide⟩ (st := []) rfl (Nat.le_of_ble_eq_true rfl) dX5_fewestFrom_86 ⟨by decide, by decide⟩) (fun u hu => ?_)
            exact g_iret_p B hr rfl hlocks () (by rw [ks_ff_s, if_neg c1, if_neg (by omega), if_neg c5]) (trivial) dX5_fewestFrom_89
        · refine g_iload B dX5_fewestFrom_34 5 rfl ?_
          exact g_iret_p B hr rfl hlocks () (by rw [ks_ff_s, if_neg c1, if_pos (by omega)]) (trivial) dX5_fewestFrom_36
  · refine g_iload B dX5_fewestFrom_6 4 rfl ?_
    refine g_iload B dX5_fewestFrom_8 5 rfl ?_
    refine g_mmin (v := (if nI b < nI u then nI b else nI u)) B (List.mem_of_getElem? (i := 1) rfl) (List.mem_of_getElem? (i := 2) rfl) (List.mem_of_getElem? (i := 3) rfl) (List.mem_of_getElem? (i := 4) rfl) (by decide) (by decide) (by decide) (by decide) dX5_fewestFrom_10 (rfl) ?_
    refine g_eqi (y := nI (if b < u then b else u)) (ks_minN (by omega) (by omega)) ?_
    exact g_iret_p B hr rfl hlocks () (by rw [ks_ff_s, if_pos c1]) (trivial) dX5_fewestFrom_13

set_option maxHeartbeats 4000000 in
set_option maxRecDepth 100000 in
theorem k_ff_7 (l : Launch) {D : va_G} {cI cL cZ cQ : ClassId} (a3 : Nat) (F : Nat → Int64) (n : Nat) (k : Nat) (o : Int64) (u : Nat) (b : Nat) (h1 : n ≤ 12) (h2 : n ≤ k + 7) (h3 : k ≤ 12) (h4 : u ≤ k) (h5 : b ≤ 12) : PM l yX5_fewestFrom wsX5_fewestFrom ({ frames := 8, cells := 0, slots := 0, locals := 210 } : Room) D (gTys cI cL cZ cQ) [.ref a3, .int (nI n), .int (nI k), .long o, .int (nI u), .int (nI b)] [(a3, .inl (cL, 41, .inr (.inl F)))] (fun (_ : Unit) => True) (fun (_ : Unit) => some (.int (nI (ks_ff F n 7 k o u b)))) := by
  refine PM.ofG cX5_fewestFrom 8 (some .int) (by decide +kernel) rfl (Nat.le_of_ble_eq_true rfl) ?_
  intro p e s m below meth c B hr hlocks hname hK hN
  have w1 := ks_ff_le F n 6 (k + 1) (o &&& (F k ^^^ (-1))) (u + 1) b
  refine g_lload_n B dX5_fewestFrom_0 3 rfl ?_
  refine g_lconst (v := (0 : Int64)) B dX5_fewestFrom_1 rfl ?_
  refine g_lcmp (v := (lg_cmp o (0 : Int64))) B dX5_fewestFrom_2 rfl ?_
  refine g_lif_ne (tgt := 14) B dX5_fewestFrom_3 (by decide) (fun c1 => ?_) (fun c1 => ?_)
  · refine g_iload_n B dX5_fewestFrom_14 2 rfl ?_
    refine g_iload_n B dX5_fewestFrom_15 1 rfl ?_
    refine g_ncmp_ge (tgt := 34) B k n rfl rfl (by omega) (by omega) dX5_fewestFrom_16 (by decide) (fun c2 => ?_) (fun c2 => ?_)
    · refine g_iload B dX5_fewestFrom_34 5 rfl ?_
      exact g_iret_p B hr rfl hlocks () (by rw [ks_ff_s, if_neg c1, if_pos (by omega)]) (trivial) dX5_fewestFrom_36
    · refine g_iload_n B dX5_fewestFrom_19 2 rfl ?_
      refine g_bipush (v := (12 : Int32)) B dX5_fewestFrom_20 (by decide) ?_
      refine g_ncmp_ge (tgt := 34) B k 12 rfl rfl (by omega) (by omega) dX5_fewestFrom_22 (by decide) (fun c3 => ?_) (fun c3 => ?_)
      · refine g_iload B dX5_fewestFrom_34 5 rfl ?_
        exact g_iret_p B hr rfl hlocks () (by rw [ks_ff_s, if_neg c1, if_pos (by omega)]) (trivial) dX5_fewestFrom_36
      · refine g_iload B dX5_fewestFrom_25 4 rfl ?_
        refine g_iconst (v := (1 : Int32)) B dX5_fewestFrom_27 (by decide) ?_
        refine g_iadd (v := nI (u + 1)) B dX5_fewestFrom_28 (nI_add u 1) ?_
        refine g_iload B dX5_fewestFrom_29 5 rfl ?_
        refine g_ncmp_lt (tgt := 37) B (u + 1) b rfl rfl (by omega) (by omega) dX5_fewestFrom_31 (by decide) (fun c4 => ?_) (fun c4 => ?_)
        · refine g_iload B dX5_fewestFrom_37 5 rfl ?_
          refine g_istore (lv' := [(0, .ref a3), (1, .int (nI n)), (2, .int (nI k)), (3, .long o), (5, .int (nI u)), (6, .int (nI b)), (7, .int (nI b))]) B dX5_fewestFrom_39 (by decide) [1, 2, 3, 4, 5, 6, 0] rfl ?_
          refine g_aload_n B dX5_fewestFrom_41 0 rfl ?_
          refine g_iload_n B dX5_fewestFrom_42 2 rfl ?_
          refine g_lald B hK 0 1 rfl rfl k rfl (by omega) (by omega) (v := (F k)) rfl dX5_fewestFrom_43 ?_
          refine g_lload_n B dX5_fewestFrom_44 3 rfl ?_
          refine g_land (v := ((F k) &&& o)) B dX5_fewestFrom_45 (rfl) ?_
          refine g_lconst (v := (0 : Int64)) B dX5_fewestFrom_46 rfl ?_
          refine g_lcmp (v := (lg_cmp ((F k) &&& o) (0 : Int64))) B dX5_fewestFrom_47 rfl ?_
          refine g_lif_eq (tgt := 76) B dX5_fewestFrom_48 (by decide) (fun c5 => ?_) (fun c5 => ?_)
          · refine g_aload_n B dX5_fewestFrom_76 0 rfl ?_
            refine g_iload_n B dX5_fewestFrom_77 1 rfl ?_
            refine g_iload_n B dX5_fewestFrom_78 2 rfl ?_
            refine g_iconst (v := (1 : Int32)) B dX5_fewestFrom_79 (by decide) ?_
            refine g_iadd (v := nI (k + 1)) B dX5_fewestFrom_80 (nI_add k 1) ?_
            refine g_lload_n B dX5_fewestFrom_81 3 rfl ?_
            refine g_iload B dX5_fewestFrom_82 4 rfl ?_
            refine g_iload B dX5_fewestFrom_84 6 rfl ?_
            refine g_callP (g_runS B (PM.met (k_ff_6 l (D := D) (cI := cI) (cL := cL) (cZ := cZ) (cQ := cQ) a3 F n (k + 1) o u b (by first | assumption | omega) (by first | assumption | omega) (by first | assumption | omega) (by first | assumption | omega) (by first | assumption | omega))) (gPp.pre (av := [.ref a3, .int (nI n), .int (nI (k + 1)), .long o, .int (nI u), .int (nI b)]) (wc := [(a3, .inl (cL, 41, .inr (.inl F)))]) hK hN [0] rfl (by decide)) gX5_fewestFrom_X5_fewestFrom rfl kd_X5_fewestFrom ⟨by decide, by decide⟩ (st := []) rfl (Nat.le_of_ble_eq_true rfl) dX5_fewestFrom_86 ⟨by decide, by decide⟩) (fun u hu => ?_)
            exact g_iret_p B hr rfl hlocks () (by rw [ks_ff_s, if_neg c1, if_neg (by omega), if_pos c5]) (trivial) dX5_fewestFrom_89
          · refine g_aload_n B dX5_fewestFrom_51 0 rfl ?_
            refine g_iload_n B dX5_fewestFrom_52 1 rfl ?_
            refine g_iload_n B dX5_fewestFrom_53 2 rfl ?_
            refine g_iconst (v := (1 : Int32)) B dX5_fewestFrom_54 (by decide) ?_
            refine g_iadd (v := nI (k + 1)) B dX5_fewestFrom_55 (nI_add k 1) ?_
            refine g_lload_n B dX5_fewestFrom_56 3 rfl ?_
            refine g_aload_n B dX5_fewestFrom_57 0 rfl ?_
            refine g_iload_n B dX5_fewestFrom_58 2 rfl ?_
            refine g_lald B hK 0 1 rfl rfl k rfl (by omega) (by omega) (v := (F k)) rfl dX5_fewestFrom_59 ?_
            refine g_ldc2 (v := (-1 : Int64)) B dX5_fewestFrom_60 (List.mem_of_getElem? (i := 5) rfl) ?_
            refine g_lxor (v := ((F k) ^^^ (-1 : Int64))) B dX5_fewestFrom_63 (rfl) ?_
            refine g_land (v := (o &&& ((F k) ^^^ (-1 : Int64)))) B dX5_fewestFrom_64 (rfl) ?_
            refine g_iload B dX5_fewestFrom_65 4 rfl ?_
            refine g_iconst (v := (1 : Int32)) B dX5_fewestFrom_67 (by decide) ?_
            refine g_iadd (v := nI (u + 1)) B dX5_fewestFrom_68 (nI_add u 1) ?_
            refine g_iload B dX5_fewestFrom_69 6 rfl ?_
            refine g_callP (g_runS B (PM.met (k_ff_6 l (D := D) (cI := cI) (cL := cL) (cZ := cZ) (cQ := cQ) a3 F n (k + 1) (o &&& ((F k) ^^^ (-1 : Int64))) (u + 1) b (by first | assumption | omega) (by first | assumption | omega) (by first | assumption | omega) (by first | assumption | omega) (by first | assumption | omega))) (gPp.pre (av := [.ref a3, .int (nI n), .int (nI (k + 1)), .long (o &&& ((F k) ^^^ (-1 : Int64))), .int (nI (u + 1)), .int (nI b)]) (wc := [(a3, .inl (cL, 41, .inr (.inl F)))]) hK hN [0] rfl (by decide)) gX5_fewestFrom_X5_fewestFrom rfl kd_X5_fewestFrom ⟨by decide, by decide⟩ (st := []) rfl (Nat.le_of_ble_eq_true rfl) dX5_fewestFrom_71 ⟨by decide, by decide⟩) (fun u hu => ?_)
            refine g_istore (lv' := [(0, .ref a3), (1, .int (nI n)), (2, .int (nI k)), (3, .long o), (5, .int (nI u)), (6, .int (nI b)), (7, .int (nI (ks_ff F n 6 k + 1 (o &&& ((F k) ^^^ (-1 : Int64))) u + 1 b)))]) B dX5_fewestFrom_74 (by decide) [1, 2, 3, 4, 5, 6, 0] rfl ?_
            refine g_aload_n B dX5_fewestFrom_76 0 rfl ?_
            refine g_iload_n B dX5_fewestFrom_77 1 rfl ?_
            refine g_iload_n B dX5_fewestFrom_78 2 rfl ?_
            refine g_iconst (v := (1 : Int32)) B dX5_fewestFrom_79 (by decide) ?_
            refine g_iadd (v := nI (k + 1)) B dX5_fewestFrom_80 (nI_add k 1) ?_
            refine g_lload_n B dX5_fewestFrom_81 3 rfl ?_
            refine g_iload B dX5_fewestFrom_82 4 rfl ?_
            refine g_iload B dX5_fewestFrom_84 6 rfl ?_
            refine g_callP (g_runS B (PM.met (k_ff_6 l (D := D) (cI := cI) (cL := cL) (cZ := cZ) (cQ := cQ) a3 F n (k + 1) o u (ks_ff F n 6 k + 1 (o &&& ((F k) ^^^ (-1 : Int64))) u + 1 b) (by first | assumption | omega) (by first | assumption | omega) (by first | assumption | omega) (by first | assumption | omega) (by first | assumption | omega))) (gPp.pre (av := [.ref a3, .int (nI n), .int (nI (k + 1)), .long o, .int (nI u), .int (nI (ks_ff F n 6 k + 1 (o &&& ((F k) ^^^ (-1 : Int64))) u + 1 b))]) (wc := [(a3, .inl (cL, 41, .inr (.inl F)))]) hK hN [0] rfl (by decide)) gX5_fewestFrom_X5_fewestFrom rfl kd_X5_fewestFrom ⟨by decide, by decide⟩ (st := []) rfl (Nat.le_of_ble_eq_true rfl) dX5_fewestFrom_86 ⟨by decide, by decide⟩) (fun u hu => ?_)
            exact g_iret_p B hr rfl hlocks () (by rw [ks_ff_s, if_neg c1, if_neg (by omega), if_neg c5]) (trivial) dX5_fewestFrom_89
        · refine g_iload B dX5_fewestFrom_34 5 rfl ?_
          exact g_iret_p B hr rfl hlocks () (by rw [ks_ff_s, if_neg c1, if_pos (by omega)]) (trivial) dX5_fewestFrom_36
  · refine g_iload B dX5_fewestFrom_6 4 rfl ?_
    refine g_iload B dX5_fewestFrom_8 5 rfl ?_
    refine g_mmin (v := (if nI b < nI u then nI b else nI u)) B (List.mem_of_getElem? (i := 1) rfl) (List.mem_of_getElem? (i := 2) rfl) (List.mem_of_getElem? (i := 3) rfl) (List.mem_of_getElem? (i := 4) rfl) (by decide) (by decide) (by decide) (by decide) dX5_fewestFrom_10 (rfl) ?_
    refine g_eqi (y := nI (if b < u then b else u)) (ks_minN (by omega) (by omega)) ?_
    exact g_iret_p B hr rfl hlocks () (by rw [ks_ff_s, if_pos c1]) (trivial) dX5_fewestFrom_13

set_option maxHeartbeats 4000000 in
set_option maxRecDepth 100000 in
theorem k_ff_8 (l : Launch) {D : va_G} {cI cL cZ cQ : ClassId} (a3 : Nat) (F : Nat → Int64) (n : Nat) (k : Nat) (o : Int64) (u : Nat) (b : Nat) (h1 : n ≤ 12) (h2 : n ≤ k + 8) (h3 : k ≤ 12) (h4 : u ≤ k) (h5 : b ≤ 12) : PM l yX5_fewestFrom wsX5_fewestFrom ({ frames := 9, cells := 0, slots := 0, locals := 237 } : Room) D (gTys cI cL cZ cQ) [.ref a3, .int (nI n), .int (nI k), .long o, .int (nI u), .int (nI b)] [(a3, .inl (cL, 41, .inr (.inl F)))] (fun (_ : Unit) => True) (fun (_ : Unit) => some (.int (nI (ks_ff F n 8 k o u b)))) := by
  refine PM.ofG cX5_fewestFrom 8 (some .int) (by decide +kernel) rfl (Nat.le_of_ble_eq_true rfl) ?_
  intro p e s m below meth c B hr hlocks hname hK hN
  have w1 := ks_ff_le F n 7 (k + 1) (o &&& (F k ^^^ (-1))) (u + 1) b
  refine g_lload_n B dX5_fewestFrom_0 3 rfl ?_
  refine g_lconst (v := (0 : Int64)) B dX5_fewestFrom_1 rfl ?_
  refine g_lcmp (v := (lg_cmp o (0 : Int64))) B dX5_fewestFrom_2 rfl ?_
  refine g_lif_ne (tgt := 14) B dX5_fewestFrom_3 (by decide) (fun c1 => ?_) (fun c1 => ?_)
  · refine g_iload_n B dX5_fewestFrom_14 2 rfl ?_
    refine g_iload_n B dX5_fewestFrom_15 1 rfl ?_
    refine g_ncmp_ge (tgt := 34) B k n rfl rfl (by omega) (by omega) dX5_fewestFrom_16 (by decide) (fun c2 => ?_) (fun c2 => ?_)
    · refine g_iload B dX5_fewestFrom_34 5 rfl ?_
      exact g_iret_p B hr rfl hlocks () (by rw [ks_ff_s, if_neg c1, if_pos (by omega)]) (trivial) dX5_fewestFrom_36
    · refine g_iload_n B dX5_fewestFrom_19 2 rfl ?_
      refine g_bipush (v := (12 : Int32)) B dX5_fewestFrom_20 (by decide) ?_
      refine g_ncmp_ge (tgt := 34) B k 12 rfl rfl (by omega) (by omega) dX5_fewestFrom_22 (by decide) (fun c3 => ?_) (fun c3 => ?_)
      · refine g_iload B dX5_fewestFrom_34 5 rfl ?_
        exact g_iret_p B hr rfl hlocks () (by rw [ks_ff_s, if_neg c1, if_pos (by omega)]) (trivial) dX5_fewestFrom_36
      · refine g_iload B dX5_fewestFrom_25 4 rfl ?_
        refine g_iconst (v := (1 : Int32)) B dX5_fewestFrom_27 (by decide) ?_
        refine g_iadd (v := nI (u + 1)) B dX5_fewestFrom_28 (nI_add u 1) ?_
        refine g_iload B dX5_fewestFrom_29 5 rfl ?_
        refine g_ncmp_lt (tgt := 37) B (u + 1) b rfl rfl (by omega) (by omega) dX5_fewestFrom_31 (by decide) (fun c4 => ?_) (fun c4 => ?_)
        · refine g_iload B dX5_fewestFrom_37 5 rfl ?_
          refine g_istore (lv' := [(0, .ref a3), (1, .int (nI n)), (2, .int (nI k)), (3, .long o), (5, .int (nI u)), (6, .int (nI b)), (7, .int (nI b))]) B dX5_fewestFrom_39 (by decide) [1, 2, 3, 4, 5, 6, 0] rfl ?_
          refine g_aload_n B dX5_fewestFrom_41 0 rfl ?_
          refine g_iload_n B dX5_fewestFrom_42 2 rfl ?_
          refine g_lald B hK 0 1 rfl rfl k rfl (by omega) (by omega) (v := (F k)) rfl dX5_fewestFrom_43 ?_
          refine g_lload_n B dX5_fewestFrom_44 3 rfl ?_
          refine g_land (v := ((F k) &&& o)) B dX5_fewestFrom_45 (rfl) ?_
          refine g_lconst (v := (0 : Int64)) B dX5_fewestFrom_46 rfl ?_
          refine g_lcmp (v := (lg_cmp ((F k) &&& o) (0 : Int64))) B dX5_fewestFrom_47 rfl ?_
          refine g_lif_eq (tgt := 76) B dX5_fewestFrom_48 (by decide) (fun c5 => ?_) (fun c5 => ?_)
          · refine g_aload_n B dX5_fewestFrom_76 0 rfl ?_
            refine g_iload_n B dX5_fewestFrom_77 1 rfl ?_
            refine g_iload_n B dX5_fewestFrom_78 2 rfl ?_
            refine g_iconst (v := (1 : Int32)) B dX5_fewestFrom_79 (by decide) ?_
            refine g_iadd (v := nI (k + 1)) B dX5_fewestFrom_80 (nI_add k 1) ?_
            refine g_lload_n B dX5_fewestFrom_81 3 rfl ?_
            refine g_iload B dX5_fewestFrom_82 4 rfl ?_
            refine g_iload B dX5_fewestFrom_84 6 rfl ?_
            refine g_callP (g_runS B (PM.met (k_ff_7 l (D := D) (cI := cI) (cL := cL) (cZ := cZ) (cQ := cQ) a3 F n (k + 1) o u b (by first | assumption | omega) (by first | assumption | omega) (by first | assumption | omega) (by first | assumption | omega) (by first | assumption | omega))) (gPp.pre (av := [.ref a3, .int (nI n), .int (nI (k + 1)), .long o, .int (nI u), .int (nI b)]) (wc := [(a3, .inl (cL, 41, .inr (.inl F)))]) hK hN [0] rfl (by decide)) gX5_fewestFrom_X5_fewestFrom rfl kd_X5_fewestFrom ⟨by decide, by decide⟩ (st := []) rfl (Nat.le_of_ble_eq_true rfl) dX5_fewestFrom_86 ⟨by decide, by decide⟩) (fun u hu => ?_)
            exact g_iret_p B hr rfl hlocks () (by rw [ks_ff_s, if_neg c1, if_neg (by omega), if_pos c5]) (trivial) dX5_fewestFrom_89
          · refine g_aload_n B dX5_fewestFrom_51 0 rfl ?_
            refine g_iload_n B dX5_fewestFrom_52 1 rfl ?_
            refine g_iload_n B dX5_fewestFrom_53 2 rfl ?_
            refine g_iconst (v := (1 : Int32)) B dX5_fewestFrom_54 (by decide) ?_
            refine g_iadd (v := nI (k + 1)) B dX5_fewestFrom_55 (nI_add k 1) ?_
            refine g_lload_n B dX5_fewestFrom_56 3 rfl ?_
            refine g_aload_n B dX5_fewestFrom_57 0 rfl ?_
            refine g_iload_n B dX5_fewestFrom_58 2 rfl ?_
            refine g_lald B hK 0 1 rfl rfl k rfl (by omega) (by omega) (v := (F k)) rfl dX5_fewestFrom_59 ?_
            refine g_ldc2 (v := (-1 : Int64)) B dX5_fewestFrom_60 (List.mem_of_getElem? (i := 5) rfl) ?_
            refine g_lxor (v := ((F k) ^^^ (-1 : Int64))) B dX5_fewestFrom_63 (rfl) ?_
            refine g_land (v := (o &&& ((F k) ^^^ (-1 : Int64)))) B dX5_fewestFrom_64 (rfl) ?_
            refine g_iload B dX5_fewestFrom_65 4 rfl ?_
            refine g_iconst (v := (1 : Int32)) B dX5_fewestFrom_67 (by decide) ?_
            refine g_iadd (v := nI (u + 1)) B dX5_fewestFrom_68 (nI_add u 1) ?_
            refine g_iload B dX5_fewestFrom_69 6 rfl ?_
            refine g_callP (g_runS B (PM.met (k_ff_7 l (D := D) (cI := cI) (cL := cL) (cZ := cZ) (cQ := cQ) a3 F n (k + 1) (o &&& ((F k) ^^^ (-1 : Int64))) (u + 1) b (by first | assumption | omega) (by first | assumption | omega) (by first | assumption | omega) (by first | assumption | omega) (by first | assumption | omega))) (gPp.pre (av := [.ref a3, .int (nI n), .int (nI (k + 1)), .long (o &&& ((F k) ^^^ (-1 : Int64))), .int (nI (u + 1)), .int (nI b)]) (wc := [(a3, .inl (cL, 41, .inr (.inl F)))]) hK hN [0] rfl (by decide)) gX5_fewestFrom_X5_fewestFrom rfl kd_X5_fewestFrom ⟨by decide, by decide⟩ (st := []) rfl (Nat.le_of_ble_eq_true rfl) dX5_fewestFrom_71 ⟨by decide, by decide⟩) (fun u hu => ?_)
            refine g_istore (lv' := [(0, .ref a3), (1, .int (nI n)), (2, .int (nI k)), (3, .long o), (5, .int (nI u)), (6, .int (nI b)), (7, .int (nI (ks_ff F n 7 k + 1 (o &&& ((F k) ^^^ (-1 : Int64))) u + 1 b)))]) B dX5_fewestFrom_74 (by decide) [1, 2, 3, 4, 5, 6, 0] rfl ?_
            refine g_aload_n B dX5_fewestFrom_76 0 rfl ?_
            refine g_iload_n B dX5_fewestFrom_77 1 rfl ?_
            refine g_iload_n B dX5_fewestFrom_78 2 rfl ?_
            refine g_iconst (v := (1 : Int32)) B dX5_fewestFrom_79 (by decide) ?_
            refine g_iadd (v := nI (k + 1)) B dX5_fewestFrom_80 (nI_add k 1) ?_
            refine g_lload_n B dX5_fewestFrom_81 3 rfl ?_
            refine g_iload B dX5_fewestFrom_82 4 rfl ?_
            refine g_iload B dX5_fewestFrom_84 6 rfl ?_
            refine g_callP (g_runS B (PM.met (k_ff_7 l (D := D) (cI := cI) (cL := cL) (cZ := cZ) (cQ := cQ) a3 F n (k + 1) o u (ks_ff F n 7 k + 1 (o &&& ((F k) ^^^ (-1 : Int64))) u + 1 b) (by first | assumption | omega) (by first | assumption | omega) (by first | assumption | omega) (by first | assumption | omega) (by first | assumption | omega))) (gPp.pre (av := [.ref a3, .int (nI n), .int (nI (k + 1)), .long o, .int (nI u), .int (nI (ks_ff F n 7 k + 1 (o &&& ((F k) ^^^ (-1 : Int64))) u + 1 b))]) (wc := [(a3, .inl (cL, 41, .inr (.inl F)))]) hK hN [0] rfl (by decide)) gX5_fewestFrom_X5_fewestFrom rfl kd_X5_fewestFrom ⟨by decide, by decide⟩ (st := []) rfl (Nat.le_of_ble_eq_true rfl) dX5_fewestFrom_86 ⟨by decide, by decide⟩) (fun u hu => ?_)
            exact g_iret_p B hr rfl hlocks () (by rw [ks_ff_s, if_neg c1, if_neg (by omega), if_neg c5]) (trivial) dX5_fewestFrom_89
        · refine g_iload B dX5_fewestFrom_34 5 rfl ?_
          exact g_iret_p B hr rfl hlocks () (by rw [ks_ff_s, if_neg c1, if_pos (by omega)]) (trivial) dX5_fewestFrom_36
  · refine g_iload B dX5_fewestFrom_6 4 rfl ?_
    refine g_iload B dX5_fewestFrom_8 5 rfl ?_
    refine g_mmin (v := (if nI b < nI u then nI b else nI u)) B (List.mem_of_getElem? (i := 1) rfl) (List.mem_of_getElem? (i := 2) rfl) (List.mem_of_getElem? (i := 3) rfl) (List.mem_of_getElem? (i := 4) rfl) (by decide) (by decide) (by decide) (by decide) dX5_fewestFrom_10 (rfl) ?_
    refine g_eqi (y := nI (if b < u then b else u)) (ks_minN (by omega) (by omega)) ?_
    exact g_iret_p B hr rfl hlocks () (by rw [ks_ff_s, if_pos c1]) (trivial) dX5_fewestFrom_13

set_option maxHeartbeats 4000000 in
set_option maxRecDepth 100000 in
theorem k_ff_9 (l : Launch) {D : va_G} {cI cL cZ cQ : ClassId} (a3 : Nat) (F : Nat → Int64) (n : Nat) (k : Nat) (o : Int64) (u : Nat) (b : Nat) (h1 : n ≤ 12) (h2 : n ≤ k + 9) (h3 : k ≤ 12) (h4 : u ≤ k) (h5 : b ≤ 12) : PM l yX5_fewestFrom wsX5_fewestFrom ({ frames := 10, cells := 0, slots := 0, locals := 264 } : Room) D (gTys cI cL cZ cQ) [.ref a3, .int (nI n), .int (nI k), .long o, .int (nI u), .int (nI b)] [(a3, .inl (cL, 41, .inr (.inl F)))] (fun (_ : Unit) => True) (fun (_ : Unit) => some (.int (nI (ks_ff F n 9 k o u b)))) := by
  refine PM.ofG cX5_fewestFrom 8 (some .int) (by decide +kernel) rfl (Nat.le_of_ble_eq_true rfl) ?_
  intro p e s m below meth c B hr hlocks hname hK hN
  have w1 := ks_ff_le F n 8 (k + 1) (o &&& (F k ^^^ (-1))) (u + 1) b
  refine g_lload_n B dX5_fewestFrom_0 3 rfl ?_
  refine g_lconst (v := (0 : Int64)) B dX5_fewestFrom_1 rfl ?_
  refine g_lcmp (v := (lg_cmp o (0 : Int64))) B dX5_fewestFrom_2 rfl ?_
  refine g_lif_ne (tgt := 14) B dX5_fewestFrom_3 (by decide) (fun c1 => ?_) (fun c1 => ?_)
  · refine g_iload_n B dX5_fewestFrom_14 2 rfl ?_
    refine g_iload_n B dX5_fewestFrom_15 1 rfl ?_
    refine g_ncmp_ge (tgt := 34) B k n rfl rfl (by omega) (by omega) dX5_fewestFrom_16 (by decide) (fun c2 => ?_) (fun c2 => ?_)
    · refine g_iload B dX5_fewestFrom_34 5 rfl ?_
      exact g_iret_p B hr rfl hlocks () (by rw [ks_ff_s, if_neg c1, if_pos (by omega)]) (trivial) dX5_fewestFrom_36
    · refine g_iload_n B dX5_fewestFrom_19 2 rfl ?_
      refine g_bipush (v := (12 : Int32)) B dX5_fewestFrom_20 (by decide) ?_
      refine g_ncmp_ge (tgt := 34) B k 12 rfl rfl (by omega) (by omega) dX5_fewestFrom_22 (by decide) (fun c3 => ?_) (fun c3 => ?_)
      · refine g_iload B dX5_fewestFrom_34 5 rfl ?_
        exact g_iret_p B hr rfl hlocks () (by rw [ks_ff_s, if_neg c1, if_pos (by omega)]) (trivial) dX5_fewestFrom_36
      · refine g_iload B dX5_fewestFrom_25 4 rfl ?_
        refine g_iconst (v := (1 : Int32)) B dX5_fewestFrom_27 (by decide) ?_
        refine g_iadd (v := nI (u + 1)) B dX5_fewestFrom_28 (nI_add u 1) ?_
        refine g_iload B dX5_fewestFrom_29 5 rfl ?_
        refine g_ncmp_lt (tgt := 37) B (u + 1) b rfl rfl (by omega) (by omega) dX5_fewestFrom_31 (by decide) (fun c4 => ?_) (fun c4 => ?_)
        · refine g_iload B dX5_fewestFrom_37 5 rfl ?_
          refine g_istore (lv' := [(0, .ref a3), (1, .int (nI n)), (2, .int (nI k)), (3, .long o), (5, .int (nI u)), (6, .int (nI b)), (7, .int (nI b))]) B dX5_fewestFrom_39 (by decide) [1, 2, 3, 4, 5, 6, 0] rfl ?_
          refine g_aload_n B dX5_fewestFrom_41 0 rfl ?_
          refine g_iload_n B dX5_fewestFrom_42 2 rfl ?_
          refine g_lald B hK 0 1 rfl rfl k rfl (by omega) (by omega) (v := (F k)) rfl dX5_fewestFrom_43 ?_
          refine g_lload_n B dX5_fewestFrom_44 3 rfl ?_
          refine g_land (v := ((F k) &&& o)) B dX5_fewestFrom_45 (rfl) ?_
          refine g_lconst (v := (0 : Int64)) B dX5_fewestFrom_46 rfl ?_
          refine g_lcmp (v := (lg_cmp ((F k) &&& o) (0 : Int64))) B dX5_fewestFrom_47 rfl ?_
          refine g_lif_eq (tgt := 76) B dX5_fewestFrom_48 (by decide) (fun c5 => ?_) (fun c5 => ?_)
          · refine g_aload_n B dX5_fewestFrom_76 0 rfl ?_
            refine g_iload_n B dX5_fewestFrom_77 1 rfl ?_
            refine g_iload_n B dX5_fewestFrom_78 2 rfl ?_
            refine g_iconst (v := (1 : Int32)) B dX5_fewestFrom_79 (by decide) ?_
            refine g_iadd (v := nI (k + 1)) B dX5_fewestFrom_80 (nI_add k 1) ?_
            refine g_lload_n B dX5_fewestFrom_81 3 rfl ?_
            refine g_iload B dX5_fewestFrom_82 4 rfl ?_
            refine g_iload B dX5_fewestFrom_84 6 rfl ?_
            refine g_callP (g_runS B (PM.met (k_ff_8 l (D := D) (cI := cI) (cL := cL) (cZ := cZ) (cQ := cQ) a3 F n (k + 1) o u b (by first | assumption | omega) (by first | assumption | omega) (by first | assumption | omega) (by first | assumption | omega) (by first | assumption | omega))) (gPp.pre (av := [.ref a3, .int (nI n), .int (nI (k + 1)), .long o, .int (nI u), .int (nI b)]) (wc := [(a3, .inl (cL, 41, .inr (.inl F)))]) hK hN [0] rfl (by decide)) gX5_fewestFrom_X5_fewestFrom rfl kd_X5_fewestFrom ⟨by decide, by decide⟩ (st := []) rfl (Nat.le_of_ble_eq_true rfl) dX5_fewestFrom_86 ⟨by decide, by decide⟩) (fun u hu => ?_)
            exact g_iret_p B hr rfl hlocks () (by rw [ks_ff_s, if_neg c1, if_neg (by omega), if_pos c5]) (trivial) dX5_fewestFrom_89
          · refine g_aload_n B dX5_fewestFrom_51 0 rfl ?_
            refine g_iload_n B dX5_fewestFrom_52 1 rfl ?_
            refine g_iload_n B dX5_fewestFrom_53 2 rfl ?_
            refine g_iconst (v := (1 : Int32)) B dX5_fewestFrom_54 (by decide) ?_
            refine g_iadd (v := nI (k + 1)) B dX5_fewestFrom_55 (nI_add k 1) ?_
            refine g_lload_n B dX5_fewestFrom_56 3 rfl ?_
            refine g_aload_n B dX5_fewestFrom_57 0 rfl ?_
            refine g_iload_n B dX5_fewestFrom_58 2 rfl ?_
            refine g_lald B hK 0 1 rfl rfl k rfl (by omega) (by omega) (v := (F k)) rfl dX5_fewestFrom_59 ?_
            refine g_ldc2 (v := (-1 : Int64)) B dX5_fewestFrom_60 (List.mem_of_getElem? (i := 5) rfl) ?_
            refine g_lxor (v := ((F k) ^^^ (-1 : Int64))) B dX5_fewestFrom_63 (rfl) ?_
            refine g_land (v := (o &&& ((F k) ^^^ (-1 : Int64)))) B dX5_fewestFrom_64 (rfl) ?_
            refine g_iload B dX5_fewestFrom_65 4 rfl ?_
            refine g_iconst (v := (1 : Int32)) B dX5_fewestFrom_67 (by decide) ?_
            refine g_iadd (v := nI (u + 1)) B dX5_fewestFrom_68 (nI_add u 1) ?_
            refine g_iload B dX5_fewestFrom_69 6 rfl ?_
            refine g_callP (g_runS B (PM.met (k_ff_8 l (D := D) (cI := cI) (cL := cL) (cZ := cZ) (cQ := cQ) a3 F n (k + 1) (o &&& ((F k) ^^^ (-1 : Int64))) (u + 1) b (by first | assumption | omega) (by first | assumption | omega) (by first | assumption | omega) (by first | assumption | omega) (by first | assumption | omega))) (gPp.pre (av := [.ref a3, .int (nI n), .int (nI (k + 1)), .long (o &&& ((F k) ^^^ (-1 : Int64))), .int (nI (u + 1)), .int (nI b)]) (wc := [(a3, .inl (cL, 41, .inr (.inl F)))]) hK hN [0] rfl (by decide)) gX5_fewestFrom_X5_fewestFrom rfl kd_X5_fewestFrom ⟨by decide, by decide⟩ (st := []) rfl (Nat.le_of_ble_eq_true rfl) dX5_fewestFrom_71 ⟨by decide, by decide⟩) (fun u hu => ?_)
            refine g_istore (lv' := [(0, .ref a3), (1, .int (nI n)), (2, .int (nI k)), (3, .long o), (5, .int (nI u)), (6, .int (nI b)), (7, .int (nI (ks_ff F n 8 k + 1 (o &&& ((F k) ^^^ (-1 : Int64))) u + 1 b)))]) B dX5_fewestFrom_74 (by decide) [1, 2, 3, 4, 5, 6, 0] rfl ?_
            refine g_aload_n B dX5_fewestFrom_76 0 rfl ?_
            refine g_iload_n B dX5_fewestFrom_77 1 rfl ?_
            refine g_iload_n B dX5_fewestFrom_78 2 rfl ?_
            refine g_iconst (v := (1 : Int32)) B dX5_fewestFrom_79 (by decide) ?_
            refine g_iadd (v := nI (k + 1)) B dX5_fewestFrom_80 (nI_add k 1) ?_
            refine g_lload_n B dX5_fewestFrom_81 3 rfl ?_
            refine g_iload B dX5_fewestFrom_82 4 rfl ?_
            refine g_iload B dX5_fewestFrom_84 6 rfl ?_
            refine g_callP (g_runS B (PM.met (k_ff_8 l (D := D) (cI := cI) (cL := cL) (cZ := cZ) (cQ := cQ) a3 F n (k + 1) o u (ks_ff F n 8 k + 1 (o &&& ((F k) ^^^ (-1 : Int64))) u + 1 b) (by first | assumption | omega) (by first | assumption | omega) (by first | assumption | omega) (by first | assumption | omega) (by first | assumption | omega))) (gPp.pre (av := [.ref a3, .int (nI n), .int (nI (k + 1)), .long o, .int (nI u), .int (nI (ks_ff F n 8 k + 1 (o &&& ((F k) ^^^ (-1 : Int64))) u + 1 b))]) (wc := [(a3, .inl (cL, 41, .inr (.inl F)))]) hK hN [0] rfl (by decide)) gX5_fewestFrom_X5_fewestFrom rfl kd_X5_fewestFrom ⟨by decide, by decide⟩ (st := []) rfl (Nat.le_of_ble_eq_true rfl) dX5_fewestFrom_86 ⟨by decide, by decide⟩) (fun u hu => ?_)
            exact g_iret_p B hr rfl hlocks () (by rw [ks_ff_s, if_neg c1, if_neg (by omega), if_neg c5]) (trivial) dX5_fewestFrom_89
        · refine g_iload B dX5_fewestFrom_34 5 rfl ?_
          exact g_iret_p B hr rfl hlocks () (by rw [ks_ff_s, if_neg c1, if_pos (by omega)]) (trivial) dX5_fewestFrom_36
  · refine g_iload B dX5_fewestFrom_6 4 rfl ?_
    refine g_iload B dX5_fewestFrom_8 5 rfl ?_
    refine g_mmin (v := (if nI b < nI u then nI b else nI u)) B (List.mem_of_getElem? (i := 1) rfl) (List.mem_of_getElem? (i := 2) rfl) (List.mem_of_getElem? (i := 3) rfl) (List.mem_of_getElem? (i := 4) rfl) (by decide) (by decide) (by decide) (by decide) dX5_fewestFrom_10 (rfl) ?_
    refine g_eqi (y := nI (if b < u then b else u)) (ks_minN (by omega) (by omega)) ?_
    exact g_iret_p B hr rfl hlocks () (by rw [ks_ff_s, if_pos c1]) (trivial) dX5_fewestFrom_13

set_option maxHeartbeats 4000000 in
set_option maxRecDepth 100000 in
theorem k_ff_10 (l : Launch) {D : va_G} {cI cL cZ cQ : ClassId} (a3 : Nat) (F : Nat → Int64) (n : Nat) (k : Nat) (o : Int64) (u : Nat) (b : Nat) (h1 : n ≤ 12) (h2 : n ≤ k + 10) (h3 : k ≤ 12) (h4 : u ≤ k) (h5 : b ≤ 12) : PM l yX5_fewestFrom wsX5_fewestFrom ({ frames := 11, cells := 0, slots := 0, locals := 291 } : Room) D (gTys cI cL cZ cQ) [.ref a3, .int (nI n), .int (nI k), .long o, .int (nI u), .int (nI b)] [(a3, .inl (cL, 41, .inr (.inl F)))] (fun (_ : Unit) => True) (fun (_ : Unit) => some (.int (nI (ks_ff F n 10 k o u b)))) := by
  refine PM.ofG cX5_fewestFrom 8 (some .int) (by decide +kernel) rfl (Nat.le_of_ble_eq_true rfl) ?_
  intro p e s m below meth c B hr hlocks hname hK hN
  have w1 := ks_ff_le F n 9 (k + 1) (o &&& (F k ^^^ (-1))) (u + 1) b
  refine g_lload_n B dX5_fewestFrom_0 3 rfl ?_
  refine g_lconst (v := (0 : Int64)) B dX5_fewestFrom_1 rfl ?_
  refine g_lcmp (v := (lg_cmp o (0 : Int64))) B dX5_fewestFrom_2 rfl ?_
  refine g_lif_ne (tgt := 14) B dX5_fewestFrom_3 (by decide) (fun c1 => ?_) (fun c1 => ?_)
  · refine g_iload_n B dX5_fewestFrom_14 2 rfl ?_
    refine g_iload_n B dX5_fewestFrom_15 1 rfl ?_
    refine g_ncmp_ge (tgt := 34) B k n rfl rfl (by omega) (by omega) dX5_fewestFrom_16 (by decide) (fun c2 => ?_) (fun c2 => ?_)
    · refine g_iload B dX5_fewestFrom_34 5 rfl ?_
      exact g_iret_p B hr rfl hlocks () (by rw [ks_ff_s, if_neg c1, if_pos (by omega)]) (trivial) dX5_fewestFrom_36
    · refine g_iload_n B dX5_fewestFrom_19 2 rfl ?_
      refine g_bipush (v := (12 : Int32)) B dX5_fewestFrom_20 (by decide) ?_
      refine g_ncmp_ge (tgt := 34) B k 12 rfl rfl (by omega) (by omega) dX5_fewestFrom_22 (by decide) (fun c3 => ?_) (fun c3 => ?_)
      · refine g_iload B dX5_fewestFrom_34 5 rfl ?_
        exact g_iret_p B hr rfl hlocks () (by rw [ks_ff_s, if_neg c1, if_pos (by omega)]) (trivial) dX5_fewestFrom_36
      · refine g_iload B dX5_fewestFrom_25 4 rfl ?_
        refine g_iconst (v := (1 : Int32)) B dX5_fewestFrom_27 (by decide) ?_
        refine g_iadd (v := nI (u + 1)) B dX5_fewestFrom_28 (nI_add u 1) ?_
        refine g_iload B dX5_fewestFrom_29 5 rfl ?_
        refine g_ncmp_lt (tgt := 37) B (u + 1) b rfl rfl (by omega) (by omega) dX5_fewestFrom_31 (by decide) (fun c4 => ?_) (fun c4 => ?_)
        · refine g_iload B dX5_fewestFrom_37 5 rfl ?_
          refine g_istore (lv' := [(0, .ref a3), (1, .int (nI n)), (2, .int (nI k)), (3, .long o), (5, .int (nI u)), (6, .int (nI b)), (7, .int (nI b))]) B dX5_fewestFrom_39 (by decide) [1, 2, 3, 4, 5, 6, 0] rfl ?_
          refine g_aload_n B dX5_fewestFrom_41 0 rfl ?_
          refine g_iload_n B dX5_fewestFrom_42 2 rfl ?_
          refine g_lald B hK 0 1 rfl rfl k rfl (by omega) (by omega) (v := (F k)) rfl dX5_fewestFrom_43 ?_
          refine g_lload_n B dX5_fewestFrom_44 3 rfl ?_
          refine g_land (v := ((F k) &&& o)) B dX5_fewestFrom_45 (rfl) ?_
          refine g_lconst (v := (0 : Int64)) B dX5_fewestFrom_46 rfl ?_
          refine g_lcmp (v := (lg_cmp ((F k) &&& o) (0 : Int64))) B dX5_fewestFrom_47 rfl ?_
          refine g_lif_eq (tgt := 76) B dX5_fewestFrom_48 (by decide) (fun c5 => ?_) (fun c5 => ?_)
          · refine g_aload_n B dX5_fewestFrom_76 0 rfl ?_
            refine g_iload_n B dX5_fewestFrom_77 1 rfl ?_
            refine g_iload_n B dX5_fewestFrom_78 2 rfl ?_
            refine g_iconst (v := (1 : Int32)) B dX5_fewestFrom_79 (by decide) ?_
            refine g_iadd (v := nI (k + 1)) B dX5_fewestFrom_80 (nI_add k 1) ?_
            refine g_lload_n B dX5_fewestFrom_81 3 rfl ?_
            refine g_iload B dX5_fewestFrom_82 4 rfl ?_
            refine g_iload B dX5_fewestFrom_84 6 rfl ?_
            refine g_callP (g_runS B (PM.met (k_ff_9 l (D := D) (cI := cI) (cL := cL) (cZ := cZ) (cQ := cQ) a3 F n (k + 1) o u b (by first | assumption | omega) (by first | assumption | omega) (by first | assumption | omega) (by first | assumption | omega) (by first | assumption | omega))) (gPp.pre (av := [.ref a3, .int (nI n), .int (nI (k + 1)), .long o, .int (nI u), .int (nI b)]) (wc := [(a3, .inl (cL, 41, .inr (.inl F)))]) hK hN [0] rfl (by decide)) gX5_fewestFrom_X5_fewestFrom rfl kd_X5_fewestFrom ⟨by decide, by decide⟩ (st := []) rfl (Nat.le_of_ble_eq_true rfl) dX5_fewestFrom_86 ⟨by decide, by decide⟩) (fun u hu => ?_)
            exact g_iret_p B hr rfl hlocks () (by rw [ks_ff_s, if_neg c1, if_neg (by omega), if_pos c5]) (trivial) dX5_fewestFrom_89
          · refine g_aload_n B dX5_fewestFrom_51 0 rfl ?_
            refine g_iload_n B dX5_fewestFrom_52 1 rfl ?_
            refine g_iload_n B dX5_fewestFrom_53 2 rfl ?_
            refine g_iconst (v := (1 : Int32)) B dX5_fewestFrom_54 (by decide) ?_
            refine g_iadd (v := nI (k + 1)) B dX5_fewestFrom_55 (nI_add k 1) ?_
            refine g_lload_n B dX5_fewestFrom_56 3 rfl ?_
            refine g_aload_n B dX5_fewestFrom_57 0 rfl ?_
            refine g_iload_n B dX5_fewestFrom_58 2 rfl ?_
            refine g_lald B hK 0 1 rfl rfl k rfl (by omega) (by omega) (v := (F k)) rfl dX5_fewestFrom_59 ?_
            refine g_ldc2 (v := (-1 : Int64)) B dX5_fewestFrom_60 (List.mem_of_getElem? (i := 5) rfl) ?_
            refine g_lxor (v := ((F k) ^^^ (-1 : Int64))) B dX5_fewestFrom_63 (rfl) ?_
            refine g_land (v := (o &&& ((F k) ^^^ (-1 : Int64)))) B dX5_fewestFrom_64 (rfl) ?_
            refine g_iload B dX5_fewestFrom_65 4 rfl ?_
            refine g_iconst (v := (1 : Int32)) B dX5_fewestFrom_67 (by decide) ?_
            refine g_iadd (v := nI (u + 1)) B dX5_fewestFrom_68 (nI_add u 1) ?_
            refine g_iload B dX5_fewestFrom_69 6 rfl ?_
            refine g_callP (g_runS B (PM.met (k_ff_9 l (D := D) (cI := cI) (cL := cL) (cZ := cZ) (cQ := cQ) a3 F n (k + 1) (o &&& ((F k) ^^^ (-1 : Int64))) (u + 1) b (by first | assumption | omega) (by first | assumption | omega) (by first | assumption | omega) (by first | assumption | omega) (by first | assumption | omega))) (gPp.pre (av := [.ref a3, .int (nI n), .int (nI (k + 1)), .long (o &&& ((F k) ^^^ (-1 : Int64))), .int (nI (u + 1)), .int (nI b)]) (wc := [(a3, .inl (cL, 41, .inr (.inl F)))]) hK hN [0] rfl (by decide)) gX5_fewestFrom_X5_fewestFrom rfl kd_X5_fewestFrom ⟨by decide, by decide⟩ (st := []) rfl (Nat.le_of_ble_eq_true rfl) dX5_fewestFrom_71 ⟨by decide, by decide⟩) (fun u hu => ?_)
            refine g_istore (lv' := [(0, .ref a3), (1, .int (nI n)), (2, .int (nI k)), (3, .long o), (5, .int (nI u)), (6, .int (nI b)), (7, .int (nI (ks_ff F n 9 k + 1 (o &&& ((F k) ^^^ (-1 : Int64))) u + 1 b)))]) B dX5_fewestFrom_74 (by decide) [1, 2, 3, 4, 5, 6, 0] rfl ?_
            refine g_aload_n B dX5_fewestFrom_76 0 rfl ?_
            refine g_iload_n B dX5_fewestFrom_77 1 rfl ?_
            refine g_iload_n B dX5_fewestFrom_78 2 rfl ?_
            refine g_iconst (v := (1 : Int32)) B dX5_fewestFrom_79 (by decide) ?_
            refine g_iadd (v := nI (k + 1)) B dX5_fewestFrom_80 (nI_add k 1) ?_
            refine g_lload_n B dX5_fewestFrom_81 3 rfl ?_
            refine g_iload B dX5_fewestFrom_82 4 rfl ?_
            refine g_iload B dX5_fewestFrom_84 6 rfl ?_
            refine g_callP (g_runS B (PM.met (k_ff_9 l (D := D) (cI := cI) (cL := cL) (cZ := cZ) (cQ := cQ) a3 F n (k + 1) o u (ks_ff F n 9 k + 1 (o &&& ((F k) ^^^ (-1 : Int64))) u + 1 b) (by first | assumption | omega) (by first | assumption | omega) (by first | assumption | omega) (by first | assumption | omega) (by first | assumption | omega))) (gPp.pre (av := [.ref a3, .int (nI n), .int (nI (k + 1)), .long o, .int (nI u), .int (nI (ks_ff F n 9 k + 1 (o &&& ((F k) ^^^ (-1 : Int64))) u + 1 b))]) (wc := [(a3, .inl (cL, 41, .inr (.inl F)))]) hK hN [0] rfl (by decide)) gX5_fewestFrom_X5_fewestFrom rfl kd_X5_fewestFrom ⟨by decide, by decide⟩ (st := []) rfl (Nat.le_of_ble_eq_true rfl) dX5_fewestFrom_86 ⟨by decide, by decide⟩) (fun u hu => ?_)
            exact g_iret_p B hr rfl hlocks () (by rw [ks_ff_s, if_neg c1, if_neg (by omega), if_neg c5]) (trivial) dX5_fewestFrom_89
        · refine g_iload B dX5_fewestFrom_34 5 rfl ?_
          exact g_iret_p B hr rfl hlocks () (by rw [ks_ff_s, if_neg c1, if_pos (by omega)]) (trivial) dX5_fewestFrom_36
  · refine g_iload B dX5_fewestFrom_6 4 rfl ?_
    refine g_iload B dX5_fewestFrom_8 5 rfl ?_
    refine g_mmin (v := (if nI b < nI u then nI b else nI u)) B (List.mem_of_getElem? (i := 1) rfl) (List.mem_of_getElem? (i := 2) rfl) (List.mem_of_getElem? (i := 3) rfl) (List.mem_of_getElem? (i := 4) rfl) (by decide) (by decide) (by decide) (by decide) dX5_fewestFrom_10 (rfl) ?_
    refine g_eqi (y := nI (if b < u then b else u)) (ks_minN (by omega) (by omega)) ?_
    exact g_iret_p B hr rfl hlocks () (by rw [ks_ff_s, if_pos c1]) (trivial) dX5_fewestFrom_13

set_option maxHeartbeats 4000000 in
set_option maxRecDepth 100000 in
theorem k_ff_11 (l : Launch) {D : va_G} {cI cL cZ cQ : ClassId} (a3 : Nat) (F : Nat → Int64) (n : Nat) (k : Nat) (o : Int64) (u : Nat) (b : Nat) (h1 : n ≤ 12) (h2 : n ≤ k + 11) (h3 : k ≤ 12) (h4 : u ≤ k) (h5 : b ≤ 12) : PM l yX5_fewestFrom wsX5_fewestFrom ({ frames := 12, cells := 0, slots := 0, locals := 318 } : Room) D (gTys cI cL cZ cQ) [.ref a3, .int (nI n), .int (nI k), .long o, .int (nI u), .int (nI b)] [(a3, .inl (cL, 41, .inr (.inl F)))] (fun (_ : Unit) => True) (fun (_ : Unit) => some (.int (nI (ks_ff F n 11 k o u b)))) := by
  refine PM.ofG cX5_fewestFrom 8 (some .int) (by decide +kernel) rfl (Nat.le_of_ble_eq_true rfl) ?_
  intro p e s m below meth c B hr hlocks hname hK hN
  have w1 := ks_ff_le F n 10 (k + 1) (o &&& (F k ^^^ (-1))) (u + 1) b
  refine g_lload_n B dX5_fewestFrom_0 3 rfl ?_
  refine g_lconst (v := (0 : Int64)) B dX5_fewestFrom_1 rfl ?_
  refine g_lcmp (v := (lg_cmp o (0 : Int64))) B dX5_fewestFrom_2 rfl ?_
  refine g_lif_ne (tgt := 14) B dX5_fewestFrom_3 (by decide) (fun c1 => ?_) (fun c1 => ?_)
  · refine g_iload_n B dX5_fewestFrom_14 2 rfl ?_
    refine g_iload_n B dX5_fewestFrom_15 1 rfl ?_
    refine g_ncmp_ge (tgt := 34) B k n rfl rfl (by omega) (by omega) dX5_fewestFrom_16 (by decide) (fun c2 => ?_) (fun c2 => ?_)
    · refine g_iload B dX5_fewestFrom_34 5 rfl ?_
      exact g_iret_p B hr rfl hlocks () (by rw [ks_ff_s, if_neg c1, if_pos (by omega)]) (trivial) dX5_fewestFrom_36
    · refine g_iload_n B dX5_fewestFrom_19 2 rfl ?_
      refine g_bipush (v := (12 : Int32)) B dX5_fewestFrom_20 (by decide) ?_
      refine g_ncmp_ge (tgt := 34) B k 12 rfl rfl (by omega) (by omega) dX5_fewestFrom_22 (by decide) (fun c3 => ?_) (fun c3 => ?_)
      · refine g_iload B dX5_fewestFrom_34 5 rfl ?_
        exact g_iret_p B hr rfl hlocks () (by rw [ks_ff_s, if_neg c1, if_pos (by omega)]) (trivial) dX5_fewestFrom_36
      · refine g_iload B dX5_fewestFrom_25 4 rfl ?_
        refine g_iconst (v := (1 : Int32)) B dX5_fewestFrom_27 (by decide) ?_
        refine g_iadd (v := nI (u + 1)) B dX5_fewestFrom_28 (nI_add u 1) ?_
        refine g_iload B dX5_fewestFrom_29 5 rfl ?_
        refine g_ncmp_lt (tgt := 37) B (u + 1) b rfl rfl (by omega) (by omega) dX5_fewestFrom_31 (by decide) (fun c4 => ?_) (fun c4 => ?_)
        · refine g_iload B dX5_fewestFrom_37 5 rfl ?_
          refine g_istore (lv' := [(0, .ref a3), (1, .int (nI n)), (2, .int (nI k)), (3, .long o), (5, .int (nI u)), (6, .int (nI b)), (7, .int (nI b))]) B dX5_fewestFrom_39 (by decide) [1, 2, 3, 4, 5, 6, 0] rfl ?_
          refine g_aload_n B dX5_fewestFrom_41 0 rfl ?_
          refine g_iload_n B dX5_fewestFrom_42 2 rfl ?_
          refine g_lald B hK 0 1 rfl rfl k rfl (by omega) (by omega) (v := (F k)) rfl dX5_fewestFrom_43 ?_
          refine g_lload_n B dX5_fewestFrom_44 3 rfl ?_
          refine g_land (v := ((F k) &&& o)) B dX5_fewestFrom_45 (rfl) ?_
          refine g_lconst (v := (0 : Int64)) B dX5_fewestFrom_46 rfl ?_
          refine g_lcmp (v := (lg_cmp ((F k) &&& o) (0 : Int64))) B dX5_fewestFrom_47 rfl ?_
          refine g_lif_eq (tgt := 76) B dX5_fewestFrom_48 (by decide) (fun c5 => ?_) (fun c5 => ?_)
          · refine g_aload_n B dX5_fewestFrom_76 0 rfl ?_
            refine g_iload_n B dX5_fewestFrom_77 1 rfl ?_
            refine g_iload_n B dX5_fewestFrom_78 2 rfl ?_
            refine g_iconst (v := (1 : Int32)) B dX5_fewestFrom_79 (by decide) ?_
            refine g_iadd (v := nI (k + 1)) B dX5_fewestFrom_80 (nI_add k 1) ?_
            refine g_lload_n B dX5_fewestFrom_81 3 rfl ?_
            refine g_iload B dX5_fewestFrom_82 4 rfl ?_
            refine g_iload B dX5_fewestFrom_84 6 rfl ?_
            refine g_callP (g_runS B (PM.met (k_ff_10 l (D := D) (cI := cI) (cL := cL) (cZ := cZ) (cQ := cQ) a3 F n (k + 1) o u b (by first | assumption | omega) (by first | assumption | omega) (by first | assumption | omega) (by first | assumption | omega) (by first | assumption | omega))) (gPp.pre (av := [.ref a3, .int (nI n), .int (nI (k + 1)), .long o, .int (nI u), .int (nI b)]) (wc := [(a3, .inl (cL, 41, .inr (.inl F)))]) hK hN [0] rfl (by decide)) gX5_fewestFrom_X5_fewestFrom rfl kd_X5_fewestFrom ⟨by decide, by decide⟩ (st := []) rfl (Nat.le_of_ble_eq_true rfl) dX5_fewestFrom_86 ⟨by decide, by decide⟩) (fun u hu => ?_)
            exact g_iret_p B hr rfl hlocks () (by rw [ks_ff_s, if_neg c1, if_neg (by omega), if_pos c5]) (trivial) dX5_fewestFrom_89
          · refine g_aload_n B dX5_fewestFrom_51 0 rfl ?_
            refine g_iload_n B dX5_fewestFrom_52 1 rfl ?_
            refine g_iload_n B dX5_fewestFrom_53 2 rfl ?_
            refine g_iconst (v := (1 : Int32)) B dX5_fewestFrom_54 (by decide) ?_
            refine g_iadd (v := nI (k + 1)) B dX5_fewestFrom_55 (nI_add k 1) ?_
            refine g_lload_n B dX5_fewestFrom_56 3 rfl ?_
            refine g_aload_n B dX5_fewestFrom_57 0 rfl ?_
            refine g_iload_n B dX5_fewestFrom_58 2 rfl ?_
            refine g_lald B hK 0 1 rfl rfl k rfl (by omega) (by omega) (v := (F k)) rfl dX5_fewestFrom_59 ?_
            refine g_ldc2 (v := (-1 : Int64)) B dX5_fewestFrom_60 (List.mem_of_getElem? (i := 5) rfl) ?_
            refine g_lxor (v := ((F k) ^^^ (-1 : Int64))) B dX5_fewestFrom_63 (rfl) ?_
            refine g_land (v := (o &&& ((F k) ^^^ (-1 : Int64)))) B dX5_fewestFrom_64 (rfl) ?_
            refine g_iload B dX5_fewestFrom_65 4 rfl ?_
            refine g_iconst (v := (1 : Int32)) B dX5_fewestFrom_67 (by decide) ?_
            refine g_iadd (v := nI (u + 1)) B dX5_fewestFrom_68 (nI_add u 1) ?_
            refine g_iload B dX5_fewestFrom_69 6 rfl ?_
            refine g_callP (g_runS B (PM.met (k_ff_10 l (D := D) (cI := cI) (cL := cL) (cZ := cZ) (cQ := cQ) a3 F n (k + 1) (o &&& ((F k) ^^^ (-1 : Int64))) (u + 1) b (by first | assumption | omega) (by first | assumption | omega) (by first | assumption | omega) (by first | assumption | omega) (by first | assumption | omega))) (gPp.pre (av := [.ref a3, .int (nI n), .int (nI (k + 1)), .long (o &&& ((F k) ^^^ (-1 : Int64))), .int (nI (u + 1)), .int (nI b)]) (wc := [(a3, .inl (cL, 41, .inr (.inl F)))]) hK hN [0] rfl (by decide)) gX5_fewestFrom_X5_fewestFrom rfl kd_X5_fewestFrom ⟨by decide, by decide⟩ (st := []) rfl (Nat.le_of_ble_eq_true rfl) dX5_fewestFrom_71 ⟨by decide, by decide⟩) (fun u hu => ?_)
            refine g_istore (lv' := [(0, .ref a3), (1, .int (nI n)), (2, .int (nI k)), (3, .long o), (5, .int (nI u)), (6, .int (nI b)), (7, .int (nI (ks_ff F n 10 k + 1 (o &&& ((F k) ^^^ (-1 : Int64))) u + 1 b)))]) B dX5_fewestFrom_74 (by decide) [1, 2, 3, 4, 5, 6, 0] rfl ?_
            refine g_aload_n B dX5_fewestFrom_76 0 rfl ?_
            refine g_iload_n B dX5_fewestFrom_77 1 rfl ?_
            refine g_iload_n B dX5_fewestFrom_78 2 rfl ?_
            refine g_iconst (v := (1 : Int32)) B dX5_fewestFrom_79 (by decide) ?_
            refine g_iadd (v := nI (k + 1)) B dX5_fewestFrom_80 (nI_add k 1) ?_
            refine g_lload_n B dX5_fewestFrom_81 3 rfl ?_
            refine g_iload B dX5_fewestFrom_82 4 rfl ?_
            refine g_iload B dX5_fewestFrom_84 6 rfl ?_
            refine g_callP (g_runS B (PM.met (k_ff_10 l (D := D) (cI := cI) (cL := cL) (cZ := cZ) (cQ := cQ) a3 F n (k + 1) o u (ks_ff F n 10 k + 1 (o &&& ((F k) ^^^ (-1 : Int64))) u + 1 b) (by first | assumption | omega) (by first | assumption | omega) (by first | assumption | omega) (by first | assumption | omega) (by first | assumption | omega))) (gPp.pre (av := [.ref a3, .int (nI n), .int (nI (k + 1)), .long o, .int (nI u), .int (nI (ks_ff F n 10 k + 1 (o &&& ((F k) ^^^ (-1 : Int64))) u + 1 b))]) (wc := [(a3, .inl (cL, 41, .inr (.inl F)))]) hK hN [0] rfl (by decide)) gX5_fewestFrom_X5_fewestFrom rfl kd_X5_fewestFrom ⟨by decide, by decide⟩ (st := []) rfl (Nat.le_of_ble_eq_true rfl) dX5_fewestFrom_86 ⟨by decide, by decide⟩) (fun u hu => ?_)
            exact g_iret_p B hr rfl hlocks () (by rw [ks_ff_s, if_neg c1, if_neg (by omega), if_neg c5]) (trivial) dX5_fewestFrom_89
        · refine g_iload B dX5_fewestFrom_34 5 rfl ?_
          exact g_iret_p B hr rfl hlocks () (by rw [ks_ff_s, if_neg c1, if_pos (by omega)]) (trivial) dX5_fewestFrom_36
  · refine g_iload B dX5_fewestFrom_6 4 rfl ?_
    refine g_iload B dX5_fewestFrom_8 5 rfl ?_
    refine g_mmin (v := (if nI b < nI u then nI b else nI u)) B (List.mem_of_getElem? (i := 1) rfl) (List.mem_of_getElem? (i := 2) rfl) (List.mem_of_getElem? (i := 3) rfl) (List.mem_of_getElem? (i := 4) rfl) (by decide) (by decide) (by decide) (by decide) dX5_fewestFrom_10 (rfl) ?_
    refine g_eqi (y := nI (if b < u then b else u)) (ks_minN (by omega) (by omega)) ?_
    exact g_iret_p B hr rfl hlocks () (by rw [ks_ff_s, if_pos c1]) (trivial) dX5_fewestFrom_13

set_option maxHeartbeats 4000000 in
set_option maxRecDepth 100000 in
theorem k_ff_12 (l : Launch) {D : va_G} {cI cL cZ cQ : ClassId} (a3 : Nat) (F : Nat → Int64) (n : Nat) (k : Nat) (o : Int64) (u : Nat) (b : Nat) (h1 : n ≤ 12) (h2 : n ≤ k + 12) (h3 : k ≤ 12) (h4 : u ≤ k) (h5 : b ≤ 12) : PM l yX5_fewestFrom wsX5_fewestFrom ({ frames := 13, cells := 0, slots := 0, locals := 345 } : Room) D (gTys cI cL cZ cQ) [.ref a3, .int (nI n), .int (nI k), .long o, .int (nI u), .int (nI b)] [(a3, .inl (cL, 41, .inr (.inl F)))] (fun (_ : Unit) => True) (fun (_ : Unit) => some (.int (nI (ks_ff F n 12 k o u b)))) := by
  refine PM.ofG cX5_fewestFrom 8 (some .int) (by decide +kernel) rfl (Nat.le_of_ble_eq_true rfl) ?_
  intro p e s m below meth c B hr hlocks hname hK hN
  have w1 := ks_ff_le F n 11 (k + 1) (o &&& (F k ^^^ (-1))) (u + 1) b
  refine g_lload_n B dX5_fewestFrom_0 3 rfl ?_
  refine g_lconst (v := (0 : Int64)) B dX5_fewestFrom_1 rfl ?_
  refine g_lcmp (v := (lg_cmp o (0 : Int64))) B dX5_fewestFrom_2 rfl ?_
  refine g_lif_ne (tgt := 14) B dX5_fewestFrom_3 (by decide) (fun c1 => ?_) (fun c1 => ?_)
  · refine g_iload_n B dX5_fewestFrom_14 2 rfl ?_
    refine g_iload_n B dX5_fewestFrom_15 1 rfl ?_
    refine g_ncmp_ge (tgt := 34) B k n rfl rfl (by omega) (by omega) dX5_fewestFrom_16 (by decide) (fun c2 => ?_) (fun c2 => ?_)
    · refine g_iload B dX5_fewestFrom_34 5 rfl ?_
      exact g_iret_p B hr rfl hlocks () (by rw [ks_ff_s, if_neg c1, if_pos (by omega)]) (trivial) dX5_fewestFrom_36
    · refine g_iload_n B dX5_fewestFrom_19 2 rfl ?_
      refine g_bipush (v := (12 : Int32)) B dX5_fewestFrom_20 (by decide) ?_
      refine g_ncmp_ge (tgt := 34) B k 12 rfl rfl (by omega) (by omega) dX5_fewestFrom_22 (by decide) (fun c3 => ?_) (fun c3 => ?_)
      · refine g_iload B dX5_fewestFrom_34 5 rfl ?_
        exact g_iret_p B hr rfl hlocks () (by rw [ks_ff_s, if_neg c1, if_pos (by omega)]) (trivial) dX5_fewestFrom_36
      · refine g_iload B dX5_fewestFrom_25 4 rfl ?_
        refine g_iconst (v := (1 : Int32)) B dX5_fewestFrom_27 (by decide) ?_
        refine g_iadd (v := nI (u + 1)) B dX5_fewestFrom_28 (nI_add u 1) ?_
        refine g_iload B dX5_fewestFrom_29 5 rfl ?_
        refine g_ncmp_lt (tgt := 37) B (u + 1) b rfl rfl (by omega) (by omega) dX5_fewestFrom_31 (by decide) (fun c4 => ?_) (fun c4 => ?_)
        · refine g_iload B dX5_fewestFrom_37 5 rfl ?_
          refine g_istore (lv' := [(0, .ref a3), (1, .int (nI n)), (2, .int (nI k)), (3, .long o), (5, .int (nI u)), (6, .int (nI b)), (7, .int (nI b))]) B dX5_fewestFrom_39 (by decide) [1, 2, 3, 4, 5, 6, 0] rfl ?_
          refine g_aload_n B dX5_fewestFrom_41 0 rfl ?_
          refine g_iload_n B dX5_fewestFrom_42 2 rfl ?_
          refine g_lald B hK 0 1 rfl rfl k rfl (by omega) (by omega) (v := (F k)) rfl dX5_fewestFrom_43 ?_
          refine g_lload_n B dX5_fewestFrom_44 3 rfl ?_
          refine g_land (v := ((F k) &&& o)) B dX5_fewestFrom_45 (rfl) ?_
          refine g_lconst (v := (0 : Int64)) B dX5_fewestFrom_46 rfl ?_
          refine g_lcmp (v := (lg_cmp ((F k) &&& o) (0 : Int64))) B dX5_fewestFrom_47 rfl ?_
          refine g_lif_eq (tgt := 76) B dX5_fewestFrom_48 (by decide) (fun c5 => ?_) (fun c5 => ?_)
          · refine g_aload_n B dX5_fewestFrom_76 0 rfl ?_
            refine g_iload_n B dX5_fewestFrom_77 1 rfl ?_
            refine g_iload_n B dX5_fewestFrom_78 2 rfl ?_
            refine g_iconst (v := (1 : Int32)) B dX5_fewestFrom_79 (by decide) ?_
            refine g_iadd (v := nI (k + 1)) B dX5_fewestFrom_80 (nI_add k 1) ?_
            refine g_lload_n B dX5_fewestFrom_81 3 rfl ?_
            refine g_iload B dX5_fewestFrom_82 4 rfl ?_
            refine g_iload B dX5_fewestFrom_84 6 rfl ?_
            refine g_callP (g_runS B (PM.met (k_ff_11 l (D := D) (cI := cI) (cL := cL) (cZ := cZ) (cQ := cQ) a3 F n (k + 1) o u b (by first | assumption | omega) (by first | assumption | omega) (by first | assumption | omega) (by first | assumption | omega) (by first | assumption | omega))) (gPp.pre (av := [.ref a3, .int (nI n), .int (nI (k + 1)), .long o, .int (nI u), .int (nI b)]) (wc := [(a3, .inl (cL, 41, .inr (.inl F)))]) hK hN [0] rfl (by decide)) gX5_fewestFrom_X5_fewestFrom rfl kd_X5_fewestFrom ⟨by decide, by decide⟩ (st := []) rfl (Nat.le_of_ble_eq_true rfl) dX5_fewestFrom_86 ⟨by decide, by decide⟩) (fun u hu => ?_)
            exact g_iret_p B hr rfl hlocks () (by rw [ks_ff_s, if_neg c1, if_neg (by omega), if_pos c5]) (trivial) dX5_fewestFrom_89
          · refine g_aload_n B dX5_fewestFrom_51 0 rfl ?_
            refine g_iload_n B dX5_fewestFrom_52 1 rfl ?_
            refine g_iload_n B dX5_fewestFrom_53 2 rfl ?_
            refine g_iconst (v := (1 : Int32)) B dX5_fewestFrom_54 (by decide) ?_
            refine g_iadd (v := nI (k + 1)) B dX5_fewestFrom_55 (nI_add k 1) ?_
            refine g_lload_n B dX5_fewestFrom_56 3 rfl ?_
            refine g_aload_n B dX5_fewestFrom_57 0 rfl ?_
            refine g_iload_n B dX5_fewestFrom_58 2 rfl ?_
            refine g_lald B hK 0 1 rfl rfl k rfl (by omega) (by omega) (v := (F k)) rfl dX5_fewestFrom_59 ?_
            refine g_ldc2 (v := (-1 : Int64)) B dX5_fewestFrom_60 (List.mem_of_getElem? (i := 5) rfl) ?_
            refine g_lxor (v := ((F k) ^^^ (-1 : Int64))) B dX5_fewestFrom_63 (rfl) ?_
            refine g_land (v := (o &&& ((F k) ^^^ (-1 : Int64)))) B dX5_fewestFrom_64 (rfl) ?_
            refine g_iload B dX5_fewestFrom_65 4 rfl ?_
            refine g_iconst (v := (1 : Int32)) B dX5_fewestFrom_67 (by decide) ?_
            refine g_iadd (v := nI (u + 1)) B dX5_fewestFrom_68 (nI_add u 1) ?_
            refine g_iload B dX5_fewestFrom_69 6 rfl ?_
            refine g_callP (g_runS B (PM.met (k_ff_11 l (D := D) (cI := cI) (cL := cL) (cZ := cZ) (cQ := cQ) a3 F n (k + 1) (o &&& ((F k) ^^^ (-1 : Int64))) (u + 1) b (by first | assumption | omega) (by first | assumption | omega) (by first | assumption | omega) (by first | assumption | omega) (by first | assumption | omega))) (gPp.pre (av := [.ref a3, .int (nI n), .int (nI (k + 1)), .long (o &&& ((F k) ^^^ (-1 : Int64))), .int (nI (u + 1)), .int (nI b)]) (wc := [(a3, .inl (cL, 41, .inr (.inl F)))]) hK hN [0] rfl (by decide)) gX5_fewestFrom_X5_fewestFrom rfl kd_X5_fewestFrom ⟨by decide, by decide⟩ (st := []) rfl (Nat.le_of_ble_eq_true rfl) dX5_fewestFrom_71 ⟨by decide, by decide⟩) (fun u hu => ?_)
            refine g_istore (lv' := [(0, .ref a3), (1, .int (nI n)), (2, .int (nI k)), (3, .long o), (5, .int (nI u)), (6, .int (nI b)), (7, .int (nI (ks_ff F n 11 k + 1 (o &&& ((F k) ^^^ (-1 : Int64))) u + 1 b)))]) B dX5_fewestFrom_74 (by decide) [1, 2, 3, 4, 5, 6, 0] rfl ?_
            refine g_aload_n B dX5_fewestFrom_76 0 rfl ?_
            refine g_iload_n B dX5_fewestFrom_77 1 rfl ?_
            refine g_iload_n B dX5_fewestFrom_78 2 rfl ?_
            refine g_iconst (v := (1 : Int32)) B dX5_fewestFrom_79 (by decide) ?_
            refine g_iadd (v := nI (k + 1)) B dX5_fewestFrom_80 (nI_add k 1) ?_
            refine g_lload_n B dX5_fewestFrom_81 3 rfl ?_
            refine g_iload B dX5_fewestFrom_82 4 rfl ?_
            refine g_iload B dX5_fewestFrom_84 6 rfl ?_
            refine g_callP (g_runS B (PM.met (k_ff_11 l (D := D) (cI := cI) (cL := cL) (cZ := cZ) (cQ := cQ) a3 F n (k + 1) o u (ks_ff F n 11 k + 1 (o &&& ((F k) ^^^ (-1 : Int64))) u + 1 b) (by first | assumption | omega) (by first | assumption | omega) (by first | assumption | omega) (by first | assumption | omega) (by first | assumption | omega))) (gPp.pre (av := [.ref a3, .int (nI n), .int (nI (k + 1)), .long o, .int (nI u), .int (nI (ks_ff F n 11 k + 1 (o &&& ((F k) ^^^ (-1 : Int64))) u + 1 b))]) (wc := [(a3, .inl (cL, 41, .inr (.inl F)))]) hK hN [0] rfl (by decide)) gX5_fewestFrom_X5_fewestFrom rfl kd_X5_fewestFrom ⟨by decide, by decide⟩ (st := []) rfl (Nat.le_of_ble_eq_true rfl) dX5_fewestFrom_86 ⟨by decide, by decide⟩) (fun u hu => ?_)
            exact g_iret_p B hr rfl hlocks () (by rw [ks_ff_s, if_neg c1, if_neg (by omega), if_neg c5]) (trivial) dX5_fewestFrom_89
        · refine g_iload B dX5_fewestFrom_34 5 rfl ?_
          exact g_iret_p B hr rfl hlocks () (by rw [ks_ff_s, if_neg c1, if_pos (by omega)]) (trivial) dX5_fewestFrom_36
  · refine g_iload B dX5_fewestFrom_6 4 rfl ?_
    refine g_iload B dX5_fewestFrom_8 5 rfl ?_
    refine g_mmin (v := (if nI b < nI u then nI b else nI u)) B (List.mem_of_getElem? (i := 1) rfl) (List.mem_of_getElem? (i := 2) rfl) (List.mem_of_getElem? (i := 3) rfl) (List.mem_of_getElem? (i := 4) rfl) (by decide) (by decide) (by decide) (by decide) dX5_fewestFrom_10 (rfl) ?_
    refine g_eqi (y := nI (if b < u then b else u)) (ks_minN (by omega) (by omega)) ?_
    exact g_iret_p B hr rfl hlocks () (by rw [ks_ff_s, if_pos c1]) (trivial) dX5_fewestFrom_13

set_option maxHeartbeats 4000000 in
set_option maxRecDepth 100000 in
theorem k_fewest (l : Launch) {D : va_G} {cI cL cZ cQ : ClassId} (hb : Nat) (hp : Nat) (ht : Nat) (hg : Nat) (ha : Nat) (hq : Nat) (P : Pg) (a0 : Nat) (a1 : Nat) (a2 : Nat) (a3 : Nat) (n : Nat) (S : Int64) (f0 : Nat → Int32) (f1 : Nat → Int32) (F : Nat → Int64) (t : Nat → Nat) (hn : n ≤ 40) (hAO : ks_AO P t n f0 f1 F) : PM l yX5_fewest wsX5_fewest ({ frames := 14, cells := 0, slots := 0, locals := 372 } : Room) D (gTys cI cL cZ cQ) [.ref hb] [(hb, .inr (5, [.ref hp, .ref ht, .ref hg, .ref ha, .ref hq])), (ha, .inr (0, [.ref a0, .ref a1, .ref a2, .ref a3, .int (nI n), .long S])), (a3, .inl (cL, 41, .inr (.inl F)))] (fun (_ : Unit) => True) (fun (_ : Unit) => some (.int (ks_fw P t n))) := by
  refine PM.ofG cX5_fewest 3 (some .int) (by decide +kernel) rfl (Nat.le_of_ble_eq_true rfl) ?_
  intro p e s m below meth c B hr hlocks hname hK hN
  refine g_aload_n B dX5_fewest_0 0 rfl ?_
  refine g_get (C := RX5) (T := TX5) (N := 5) (ci := 5) B hK hin_X5_fewest_RX5 0 rfl rfl 3 (by decide) (List.mem_of_getElem? (i := 1) rfl) rfl (v := .ref ha) rfl dX5_fewest_1 ?_
  refine g_getN (C := RX0) (T := TX0) (N := 6) (ci := 0) B hK hin_X5_fewest_RX0 1 rfl rfl 4 (by decide) hN 4 rfl rfl (v := .int (nI n)) rfl dX5_fewest_4 ?_
  refine g_bipush (v := (12 : Int32)) B dX5_fewest_7 (by decide) ?_
  refine g_ncmp_le (tgt := 14) B n 12 rfl rfl (by omega) (by omega) dX5_fewest_9 (by decide) (fun c1 => ?_) (fun c1 => ?_)
  · refine g_aload_n B dX5_fewest_14 0 rfl ?_
    refine g_get (C := RX5) (T := TX5) (N := 5) (ci := 5) B hK hin_X5_fewest_RX5 0 rfl rfl 3 (by decide) (List.mem_of_getElem? (i := 1) rfl) rfl (v := .ref ha) rfl dX5_fewest_15 ?_
    refine g_aload_n B dX5_fewest_18 0 rfl ?_
    refine g_get (C := RX5) (T := TX5) (N := 5) (ci := 5) B hK hin_X5_fewest_RX5 0 rfl rfl 3 (by decide) (List.mem_of_getElem? (i := 1) rfl) rfl (v := .ref ha) rfl dX5_fewest_19 ?_
    refine g_callP (g_runV (q0 := 1) (ci := 0) B hK rfl rfl (PM.met (k_allKnown l (D := D) (cI := cI) (cL := cL) (cZ := cZ) (cQ := cQ) ha a0 a1 a2 a3 n S (by first | assumption | omega))) (gPp.pre (av := [.ref ha]) (wc := [(ha, .inr (0, [.ref a0, .ref a1, .ref a2, .ref a3, .int (nI n), .long S]))]) hK hN [1] rfl (by decide)) gX5_fewest_X0_allKnown rfl rfl kd_X0_allKnown ⟨by decide, by decide⟩ (st := [.ref ha]) rfl (Nat.le_of_ble_eq_true rfl) dX5_fewest_22 ⟨by decide, by decide⟩) (fun u hu => ?_)
    refine g_callP (g_runV (q0 := 1) (ci := 0) B hK rfl rfl (PM.met (k_foundBy l (D := D) (cI := cI) (cL := cL) (cZ := cZ) (cQ := cQ) ha a0 a1 a2 a3 n S F (lShl 1 (nI n) - 1) )) (gPp.pre (av := [.ref ha, .long (lShl 1 (nI n) - 1)]) (wc := [(ha, .inr (0, [.ref a0, .ref a1, .ref a2, .ref a3, .int (nI n), .long S])), (a3, .inl (cL, 41, .inr (.inl F)))]) hK hN [1, 2] rfl (by decide)) gX5_fewest_X0_foundBy rfl rfl kd_X0_foundBy ⟨by decide, by decide⟩ (st := []) rfl (Nat.le_of_ble_eq_true rfl) dX5_fewest_25 ⟨by decide, by decide⟩) (fun u hu => ?_)
    refine g_ldc2 (v := (16777215 : Int64)) B dX5_fewest_28 (List.mem_of_getElem? (i := 2) rfl) ?_
    refine g_land (v := ((ks_fb F (lShl 1 (nI n) - 1) 41) &&& (16777215 : Int64))) B dX5_fewest_31 (rfl) ?_
    refine g_lstore_n (lv' := [(0, .ref hb), (1, .long ((ks_fb F (lShl 1 (nI n) - 1) 41) &&& (16777215 : Int64)))]) B dX5_fewest_32 rfl (by decide) [1, 0] rfl ?_
    refine g_aload_n B dX5_fewest_33 0 rfl ?_
    refine g_get (C := RX5) (T := TX5) (N := 5) (ci := 5) B hK hin_X5_fewest_RX5 0 rfl rfl 3 (by decide) (List.mem_of_getElem? (i := 1) rfl) rfl (v := .ref ha) rfl dX5_fewest_34 ?_
    refine g_getN (C := RX0) (T := TX0) (N := 6) (ci := 0) B hK hin_X5_fewest_RX0 1 rfl rfl 3 (by decide) hN 6 rfl rfl (v := .ref a3) rfl dX5_fewest_37 ?_
    refine g_aload_n B dX5_fewest_40 0 rfl ?_
    refine g_get (C := RX5) (T := TX5) (N := 5) (ci := 5) B hK hin_X5_fewest_RX5 0 rfl rfl 3 (by decide) (List.mem_of_getElem? (i := 1) rfl) rfl (v := .ref ha) rfl dX5_fewest_41 ?_
    refine g_getN (C := RX0) (T := TX0) (N := 6) (ci := 0) B hK hin_X5_fewest_RX0 1 rfl rfl 4 (by decide) hN 4 rfl rfl (v := .int (nI n)) rfl dX5_fewest_44 ?_
    refine g_iconst (v := (0 : Int32)) B dX5_fewest_47 (by decide) ?_
    refine g_lload_n B dX5_fewest_48 1 rfl ?_
    refine g_iconst (v := (0 : Int32)) B dX5_fewest_49 (by decide) ?_
    refine g_aload_n B dX5_fewest_50 0 rfl ?_
    refine g_get (C := RX5) (T := TX5) (N := 5) (ci := 5) B hK hin_X5_fewest_RX5 0 rfl rfl 3 (by decide) (List.mem_of_getElem? (i := 1) rfl) rfl (v := .ref ha) rfl dX5_fewest_51 ?_
    refine g_getN (C := RX0) (T := TX0) (N := 6) (ci := 0) B hK hin_X5_fewest_RX0 1 rfl rfl 4 (by decide) hN 4 rfl rfl (v := .int (nI n)) rfl dX5_fewest_54 ?_
    refine g_callP (g_runS B (PM.met (k_ff_12 l (D := D) (cI := cI) (cL := cL) (cZ := cZ) (cQ := cQ) a3 F n 0 ((ks_fb F (lShl 1 (nI n) - 1) 41) &&& (16777215 : Int64)) 0 n (by first | assumption | omega) (by first | assumption | omega) (by first | assumption | omega) (by first | assumption | omega) (by first | assumption | omega))) (gPp.pre (av := [.ref a3, .int (nI n), .int (0 : Int32), .long ((ks_fb F (lShl 1 (nI n) - 1) 41) &&& (16777215 : Int64)), .int (0 : Int32), .int (nI n)]) (wc := [(a3, .inl (cL, 41, .inr (.inl F)))]) hK hN [2] rfl (by decide)) gX5_fewest_X5_fewestFrom rfl kd_X5_fewestFrom ⟨by decide, by decide⟩ (st := []) rfl (Nat.le_of_ble_eq_true rfl) dX5_fewest_57 ⟨by decide, by decide⟩) (fun u hu => ?_)
    refine g_eqi (y := ks_fw P t n) (by unfold ks_fw; rw [if_neg (by omega), ks_ff_cong (ao_F hAO), ks_fbS (ks_SK_all (by omega)) (ao_F hAO)]; rfl) ?_
    exact g_iret_p B hr rfl hlocks () (rfl) (trivial) dX5_fewest_60
  · refine g_iconst (v := (-1 : Int32)) B dX5_fewest_12 (by decide) ?_
    refine g_eqi (y := ks_fw P t n) (by unfold ks_fw; rw [if_pos (by omega)]) ?_
    exact g_iret_p B hr rfl hlocks () (rfl) (trivial) dX5_fewest_13

set_option maxHeartbeats 4000000 in
set_option maxRecDepth 100000 in
theorem k_meanEnergy (l : Launch) {D : va_G} {cI cL cZ cQ : ClassId} (hb : Nat) (hp : Nat) (ht : Nat) (hg : Nat) (ha : Nat) (hq : Nat) (P : Pg) (a0 : Nat) (a1 : Nat) (a2 : Nat) (a3 : Nat) (n : Nat) (S : Int64) (f0 : Nat → Int32) (f1 : Nat → Int32) (F : Nat → Int64) (mu : Nat → Nat) (t : Nat → Nat) (hn : n ≤ 40) (hAO : ks_AO P t n f0 f1 F) (hS : ks_SK n S) (hmu : ∀ i, mu i < 1000) (he : ks_we (ks_F P t) S mu n < 175) (hk : ks_bc S < 38) : PM l yX5_meanEnergy wsX5_meanEnergy ({ frames := 5, cells := 0, slots := 0, locals := 116 } : Room) D (gTys cI cL cZ cQ) [.ref hb] [(hb, .inr (5, [.ref hp, .ref ht, .ref hg, .ref ha, .ref hq])), (ha, .inr (0, [.ref a0, .ref a1, .ref a2, .ref a3, .int (nI n), .long S])), (a0, .inl (cI, 41, .inl f0)), (a1, .inl (cI, 41, .inl f1)), (a2, .inl (cI, 41, .inl (fun i => nI (mu i)))), (a3, .inl (cL, 41, .inr (.inl F)))] (fun (_ : Unit) => True) (fun (_ : Unit) => some (.double (ks_me (ks_we (ks_F P t) S mu n) (ks_bc S)))) := by
  refine PM.ofG cX5_meanEnergy 2 (some .double) (by decide +kernel) rfl (Nat.le_of_ble_eq_true rfl) ?_
  intro p e s m below meth c B hr hlocks hname hK hN
  refine g_aload_n B dX5_meanEnergy_0 0 rfl ?_
  refine g_get (C := RX5) (T := TX5) (N := 5) (ci := 5) B hK hin_X5_meanEnergy_RX5 0 rfl rfl 3 (by decide) (List.mem_of_getElem? (i := 1) rfl) rfl (v := .ref ha) rfl dX5_meanEnergy_1 ?_
  refine g_getN (C := RX0) (T := TX0) (N := 6) (ci := 0) B hK hin_X5_meanEnergy_RX0 1 rfl rfl 5 (by decide) hN 7 rfl rfl (v := .long S) rfl dX5_meanEnergy_4 ?_
  refine g_callP (g_runS B (PM.met (k_bitCount l (D := D) (cI := cI) (cL := cL) (cZ := cZ) (cQ := cQ) S )) (gPp.pre (av := [.long S]) (wc := []) hK hN [] rfl (by decide)) gX5_meanEnergy_J13_bitCount_95d88 rfl kd_J13_bitCount_95d88 ⟨by decide, by decide⟩ (st := []) rfl (Nat.le_of_ble_eq_true rfl) dX5_meanEnergy_7 ⟨by decide, by decide⟩) (fun u hu => ?_)
  refine g_istore_n (lv' := [(0, .ref hb), (1, .int (nI (ks_bc S)))]) B dX5_meanEnergy_10 rfl (by decide) [1, 0] rfl ?_
  refine g_iload_n B dX5_meanEnergy_11 1 rfl ?_
  refine g_nif_ne (tgt := 17) B (ks_bc S) rfl (by omega) dX5_meanEnergy_12 (by decide) (fun c2 => ?_) (fun c2 => ?_)
  · refine g_aload_n B dX5_meanEnergy_17 0 rfl ?_
    refine g_get (C := RX5) (T := TX5) (N := 5) (ci := 5) B hK hin_X5_meanEnergy_RX5 0 rfl rfl 3 (by decide) (List.mem_of_getElem? (i := 1) rfl) rfl (v := .ref ha) rfl dX5_meanEnergy_18 ?_
    refine g_callP (g_runV (q0 := 1) (ci := 0) B hK rfl rfl (PM.met (k_wholeEnergy l (D := D) (cI := cI) (cL := cL) (cZ := cZ) (cQ := cQ) ha a0 a1 a2 a3 n S F mu (by first | assumption | omega) (by first | assumption | omega))) (gPp.pre (av := [.ref ha]) (wc := [(ha, .inr (0, [.ref a0, .ref a1, .ref a2, .ref a3, .int (nI n), .long S])), (a2, .inl (cI, 41, .inl (fun i => nI (mu i)))), (a3, .inl (cL, 41, .inr (.inl F)))]) hK hN [1, 4, 5] rfl (by decide)) gX5_meanEnergy_X0_wholeEnergy rfl rfl kd_X0_wholeEnergy ⟨by decide, by decide⟩ (st := []) rfl (Nat.le_of_ble_eq_true rfl) dX5_meanEnergy_21 ⟨by decide, by decide⟩) (fun u hu => ?_)
    refine g_i2d B dX5_meanEnergy_24 ?_
    refine g_iload_n B dX5_meanEnergy_25 1 rfl ?_
    refine g_i2d B dX5_meanEnergy_26 ?_
    refine g_ddiv (v := (ks_me (ks_we (ks_F P t) S mu n) (ks_bc S))) B dX5_meanEnergy_27 (by rw [ks_we_cong hn hS (ao_F hAO)]; unfold ks_me; rw [if_neg (by omega)]) (by unfold ks_me; rw [if_neg (by omega)]; exact fp_tab _ hk (by omega) _ he) ?_
    exact g_dret_p B hr hlocks () (rfl) (trivial) dX5_meanEnergy_28
  · refine g_dconst0 B dX5_meanEnergy_15 ?_
    exact g_dret_p B hr hlocks () (by unfold ks_me; rw [if_pos (by omega)]) (trivial) dX5_meanEnergy_16

