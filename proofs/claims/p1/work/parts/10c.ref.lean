/-! the reference on a fresh object: many and on -/
theorem kd_X6_failures : yX6_failures.cls ≠ "java/lang/invoke/MethodHandle" ∧ yX6_failures.cls ≠ "java/lang/invoke/VarHandle" ∧ (parseMethodDescriptor yX6_failures.desc).map (fun d => d.parameters.length) = some 0 := by decide +kernel
theorem kd_X6_fewestNow : yX6_fewestNow.cls ≠ "java/lang/invoke/MethodHandle" ∧ yX6_fewestNow.cls ≠ "java/lang/invoke/VarHandle" ∧ (parseMethodDescriptor yX6_fewestNow.desc).map (fun d => d.parameters.length) = some 0 := by decide +kernel
theorem kd_X6_hasResult : yX6_hasResult.cls ≠ "java/lang/invoke/MethodHandle" ∧ yX6_hasResult.cls ≠ "java/lang/invoke/VarHandle" ∧ (parseMethodDescriptor yX6_hasResult.desc).map (fun d => d.parameters.length) = some 2 := by decide +kernel
theorem kd_X6_knownEdges : yX6_knownEdges.cls ≠ "java/lang/invoke/MethodHandle" ∧ yX6_knownEdges.cls ≠ "java/lang/invoke/VarHandle" ∧ (parseMethodDescriptor yX6_knownEdges.desc).map (fun d => d.parameters.length) = some 0 := by decide +kernel
theorem kd_X6_manyNow : yX6_manyNow.cls ≠ "java/lang/invoke/MethodHandle" ∧ yX6_manyNow.cls ≠ "java/lang/invoke/VarHandle" ∧ (parseMethodDescriptor yX6_manyNow.desc).map (fun d => d.parameters.length) = some 1 := by decide +kernel
theorem kd_X6_reachable : yX6_reachable.cls ≠ "java/lang/invoke/MethodHandle" ∧ yX6_reachable.cls ≠ "java/lang/invoke/VarHandle" ∧ (parseMethodDescriptor yX6_reachable.desc).map (fun d => d.parameters.length) = some 0 := by decide +kernel
theorem kd_X6_wouldDropNow : yX6_wouldDropNow.cls ≠ "java/lang/invoke/MethodHandle" ∧ yX6_wouldDropNow.cls ≠ "java/lang/invoke/VarHandle" ∧ (parseMethodDescriptor yX6_wouldDropNow.desc).map (fun d => d.parameters.length) = some 1 := by decide +kernel
theorem hin_X6_breaks_RX6 : ∀ z ∈ u_ws RX6 TX6 18, z ∈ wsX6_breaks := by decide +kernel
theorem hin_X6_brokenBy_RX6 : ∀ z ∈ u_ws RX6 TX6 18, z ∈ wsX6_brokenBy := by decide +kernel
theorem hin_X6_fewestNow_RX6 : ∀ z ∈ u_ws RX6 TX6 18, z ∈ wsX6_fewestNow := by decide +kernel
theorem hin_X6_fewest_RX6 : ∀ z ∈ u_ws RX6 TX6 18, z ∈ wsX6_fewest := by decide +kernel
theorem hin_X6_manyNow_RX6 : ∀ z ∈ u_ws RX6 TX6 18, z ∈ wsX6_manyNow := by decide +kernel
theorem hin_X6_many_RX6 : ∀ z ∈ u_ws RX6 TX6 18, z ∈ wsX6_many := by decide +kernel
theorem hin_X6_meanEnergy_RX6 : ∀ z ∈ u_ws RX6 TX6 18, z ∈ wsX6_meanEnergy := by decide +kernel
theorem hin_X6_otherwise_RX6 : ∀ z ∈ u_ws RX6 TX6 18, z ∈ wsX6_otherwise := by decide +kernel
theorem hin_X6_reachable_RX6 : ∀ z ∈ u_ws RX6 TX6 18, z ∈ wsX6_reachable := by decide +kernel
theorem hin_X6_relation_RX6 : ∀ z ∈ u_ws RX6 TX6 18, z ∈ wsX6_relation := by decide +kernel
theorem hin_X6_shrink_RX6 : ∀ z ∈ u_ws RX6 TX6 18, z ∈ wsX6_shrink := by decide +kernel
theorem hin_X6_wouldDropNow_RX6 : ∀ z ∈ u_ws RX6 TX6 18, z ∈ wsX6_wouldDropNow := by decide +kernel
theorem hin_X6_wouldDrop_RX6 : ∀ z ∈ u_ws RX6 TX6 18, z ∈ wsX6_wouldDrop := by decide +kernel
set_option maxHeartbeats 4000000 in
set_option maxRecDepth 100000 in
theorem r_failures_0 (l : Launch) {D : va_G} {cI cL cZ : ClassId} (hm : Nat) (m1 : Nat) (m2 : Nat) (m3 : Nat) (m4 : Nat) (m5 : Nat) (m7 : Nat) (m9 : Nat) (m10 : Nat) (m11 : Nat) (m12 : Nat) (m13 : Nat) (m15 : Nat) (m16 : Nat) (m17 : Nat) (th : Int32) (dr : Int32) (rl : Int32)  : PM l yX6_failures wsX6_failures ({ frames := 1, cells := 0, slots := 0, locals := 23 } : Room) D (gTys cI cL cZ) [.ref hm] [(hm, .inr (6, [.int th, .ref m1, .ref m2, .ref m3, .ref m4, .ref m5, .int dr, .ref m7, .int (0 : Int32), .ref m9, .ref m10, .ref m11, .ref m12, .ref m13, .int rl, .ref m15, .ref m16, .ref m17]))] (fun (_ : Unit) => True) (fun (_ : Unit) => some (.int (0 : Int32))) := by
  refine PM.ofG cX6_failures 3 (some .int) (by decide +kernel) rfl (Nat.le_of_ble_eq_true rfl) ?_
  intro p e s m below meth c B hr hlocks hname hK hN
  refine g_iconst (v := (0 : Int32)) B dX6_failures_0 (by decide) ?_
  refine g_istore_n (lv' := [(0, .ref hm), (1, .int (0 : Int32))]) B dX6_failures_1 rfl (by decide) [1, 0] rfl ?_
  refine g_iconst (v := (0 : Int32)) B dX6_failures_2 (by decide) ?_
  refine g_istore_n (lv' := [(0, .ref hm), (1, .int (0 : Int32)), (2, .int (0 : Int32))]) B dX6_failures_3 rfl (by decide) [1, 2, 0] rfl ?_
  refine g_iload_n B dX6_failures_4 2 rfl ?_
  refine g_bipush (v := (12 : Int32)) B dX6_failures_5 (by decide) ?_
  refine g_icmp_gt (tgt := 36) B dX6_failures_7 (by decide) (fun c1 => absurd c1 (by decide)) (fun _ => ?_)
  refine g_iload_n B dX6_failures_10 1 rfl ?_
  refine g_aload_n B dX6_failures_11 0 rfl ?_
  refine g_bipush (v := (100 : Int32)) B dX6_failures_12 (by decide) ?_
  refine g_iload_n B dX6_failures_14 2 rfl ?_
  refine g_iadd (v := (100 : Int32)) B dX6_failures_15 (by decide) ?_
  refine g_iconst (v := (-1 : Int32)) B dX6_failures_16 (by decide) ?_
  refine g_callP (g_runV (q0 := 0) (ci := 6) B hK rfl rfl (PM.met (r_hasResult_0 l (D := D) (cI := cI) (cL := cL) (cZ := cZ) hm m1 m2 m3 m4 m5 m7 m9 m10 m11 m12 m13 m15 m16 m17 th dr rl (100 : Int32) (-1 : Int32) )) (gPp.pre (av := [.ref hm, .int (100 : Int32), .int (-1 : Int32)]) (wc := [(hm, .inr (6, [.int th, .ref m1, .ref m2, .ref m3, .ref m4, .ref m5, .int dr, .ref m7, .int (0 : Int32), .ref m9, .ref m10, .ref m11, .ref m12, .ref m13, .int rl, .ref m15, .ref m16, .ref m17]))]) hK hN [0] rfl (by decide)) gX6_failures_X6_hasResult rfl rfl kd_X6_hasResult ⟨by decide, by decide⟩ (st := [.int (0 : Int32)]) rfl (Nat.le_of_ble_eq_true rfl) dX6_failures_17 ⟨by decide, by decide⟩) (fun u hu => ?_)
  refine g_if_eq (tgt := 27) B dX6_failures_20 (by decide) (fun _ => ?_) (fun c3 => absurd (by decide) c3)
  refine g_iconst (v := (0 : Int32)) B dX6_failures_27 (by decide) ?_
  refine g_iadd (v := (0 : Int32)) B dX6_failures_28 (by decide) ?_
  refine g_istore_n (lv' := [(0, .ref hm), (1, .int (0 : Int32)), (2, .int (0 : Int32))]) B dX6_failures_29 rfl (by decide) [1, 0, 2] rfl ?_
  refine g_iinc (lv' := [(0, .ref hm), (1, .int (0 : Int32)), (2, .int (1 : Int32))]) B dX6_failures_30 2 rfl (by decide) (by decide) [1, 2, 0] rfl ?_
  refine g_goto (tgt := 4) B dX6_failures_33 (by decide) ?_
  refine g_iload_n B dX6_failures_4 2 rfl ?_
  refine g_bipush (v := (12 : Int32)) B dX6_failures_5 (by decide) ?_
  refine g_icmp_gt (tgt := 36) B dX6_failures_7 (by decide) (fun c4 => absurd c4 (by decide)) (fun _ => ?_)
  refine g_iload_n B dX6_failures_10 1 rfl ?_
  refine g_aload_n B dX6_failures_11 0 rfl ?_
  refine g_bipush (v := (100 : Int32)) B dX6_failures_12 (by decide) ?_
  refine g_iload_n B dX6_failures_14 2 rfl ?_
  refine g_iadd (v := (101 : Int32)) B dX6_failures_15 (by decide) ?_
  refine g_iconst (v := (-1 : Int32)) B dX6_failures_16 (by decide) ?_
  refine g_callP (g_runV (q0 := 0) (ci := 6) B hK rfl rfl (PM.met (r_hasResult_0 l (D := D) (cI := cI) (cL := cL) (cZ := cZ) hm m1 m2 m3 m4 m5 m7 m9 m10 m11 m12 m13 m15 m16 m17 th dr rl (101 : Int32) (-1 : Int32) )) (gPp.pre (av := [.ref hm, .int (101 : Int32), .int (-1 : Int32)]) (wc := [(hm, .inr (6, [.int th, .ref m1, .ref m2, .ref m3, .ref m4, .ref m5, .int dr, .ref m7, .int (0 : Int32), .ref m9, .ref m10, .ref m11, .ref m12, .ref m13, .int rl, .ref m15, .ref m16, .ref m17]))]) hK hN [0] rfl (by decide)) gX6_failures_X6_hasResult rfl rfl kd_X6_hasResult ⟨by decide, by decide⟩ (st := [.int (0 : Int32)]) rfl (Nat.le_of_ble_eq_true rfl) dX6_failures_17 ⟨by decide, by decide⟩) (fun u hu => ?_)
  refine g_if_eq (tgt := 27) B dX6_failures_20 (by decide) (fun _ => ?_) (fun c6 => absurd (by decide) c6)
  refine g_iconst (v := (0 : Int32)) B dX6_failures_27 (by decide) ?_
  refine g_iadd (v := (0 : Int32)) B dX6_failures_28 (by decide) ?_
  refine g_istore_n (lv' := [(0, .ref hm), (1, .int (0 : Int32)), (2, .int (1 : Int32))]) B dX6_failures_29 rfl (by decide) [1, 0, 2] rfl ?_
  refine g_iinc (lv' := [(0, .ref hm), (1, .int (0 : Int32)), (2, .int (2 : Int32))]) B dX6_failures_30 2 rfl (by decide) (by decide) [1, 2, 0] rfl ?_
  refine g_goto (tgt := 4) B dX6_failures_33 (by decide) ?_
  refine g_iload_n B dX6_failures_4 2 rfl ?_
  refine g_bipush (v := (12 : Int32)) B dX6_failures_5 (by decide) ?_
  refine g_icmp_gt (tgt := 36) B dX6_failures_7 (by decide) (fun c7 => absurd c7 (by decide)) (fun _ => ?_)
  refine g_iload_n B dX6_failures_10 1 rfl ?_
  refine g_aload_n B dX6_failures_11 0 rfl ?_
  refine g_bipush (v := (100 : Int32)) B dX6_failures_12 (by decide) ?_
  refine g_iload_n B dX6_failures_14 2 rfl ?_
  refine g_iadd (v := (102 : Int32)) B dX6_failures_15 (by decide) ?_
  refine g_iconst (v := (-1 : Int32)) B dX6_failures_16 (by decide) ?_
  refine g_callP (g_runV (q0 := 0) (ci := 6) B hK rfl rfl (PM.met (r_hasResult_0 l (D := D) (cI := cI) (cL := cL) (cZ := cZ) hm m1 m2 m3 m4 m5 m7 m9 m10 m11 m12 m13 m15 m16 m17 th dr rl (102 : Int32) (-1 : Int32) )) (gPp.pre (av := [.ref hm, .int (102 : Int32), .int (-1 : Int32)]) (wc := [(hm, .inr (6, [.int th, .ref m1, .ref m2, .ref m3, .ref m4, .ref m5, .int dr, .ref m7, .int (0 : Int32), .ref m9, .ref m10, .ref m11, .ref m12, .ref m13, .int rl, .ref m15, .ref m16, .ref m17]))]) hK hN [0] rfl (by decide)) gX6_failures_X6_hasResult rfl rfl kd_X6_hasResult ⟨by decide, by decide⟩ (st := [.int (0 : Int32)]) rfl (Nat.le_of_ble_eq_true rfl) dX6_failures_17 ⟨by decide, by decide⟩) (fun u hu => ?_)
  refine g_if_eq (tgt := 27) B dX6_failures_20 (by decide) (fun _ => ?_) (fun c9 => absurd (by decide) c9)
  refine g_iconst (v := (0 : Int32)) B dX6_failures_27 (by decide) ?_
  refine g_iadd (v := (0 : Int32)) B dX6_failures_28 (by decide) ?_
  refine g_istore_n (lv' := [(0, .ref hm), (1, .int (0 : Int32)), (2, .int (2 : Int32))]) B dX6_failures_29 rfl (by decide) [1, 0, 2] rfl ?_
  refine g_iinc (lv' := [(0, .ref hm), (1, .int (0 : Int32)), (2, .int (3 : Int32))]) B dX6_failures_30 2 rfl (by decide) (by decide) [1, 2, 0] rfl ?_
  refine g_goto (tgt := 4) B dX6_failures_33 (by decide) ?_
  refine g_iload_n B dX6_failures_4 2 rfl ?_
  refine g_bipush (v := (12 : Int32)) B dX6_failures_5 (by decide) ?_
  refine g_icmp_gt (tgt := 36) B dX6_failures_7 (by decide) (fun c10 => absurd c10 (by decide)) (fun _ => ?_)
  refine g_iload_n B dX6_failures_10 1 rfl ?_
  refine g_aload_n B dX6_failures_11 0 rfl ?_
  refine g_bipush (v := (100 : Int32)) B dX6_failures_12 (by decide) ?_
  refine g_iload_n B dX6_failures_14 2 rfl ?_
  refine g_iadd (v := (103 : Int32)) B dX6_failures_15 (by decide) ?_
  refine g_iconst (v := (-1 : Int32)) B dX6_failures_16 (by decide) ?_
  refine g_callP (g_runV (q0 := 0) (ci := 6) B hK rfl rfl (PM.met (r_hasResult_0 l (D := D) (cI := cI) (cL := cL) (cZ := cZ) hm m1 m2 m3 m4 m5 m7 m9 m10 m11 m12 m13 m15 m16 m17 th dr rl (103 : Int32) (-1 : Int32) )) (gPp.pre (av := [.ref hm, .int (103 : Int32), .int (-1 : Int32)]) (wc := [(hm, .inr (6, [.int th, .ref m1, .ref m2, .ref m3, .ref m4, .ref m5, .int dr, .ref m7, .int (0 : Int32), .ref m9, .ref m10, .ref m11, .ref m12, .ref m13, .int rl, .ref m15, .ref m16, .ref m17]))]) hK hN [0] rfl (by decide)) gX6_failures_X6_hasResult rfl rfl kd_X6_hasResult ⟨by decide, by decide⟩ (st := [.int (0 : Int32)]) rfl (Nat.le_of_ble_eq_true rfl) dX6_failures_17 ⟨by decide, by decide⟩) (fun u hu => ?_)
  refine g_if_eq (tgt := 27) B dX6_failures_20 (by decide) (fun _ => ?_) (fun c12 => absurd (by decide) c12)
  refine g_iconst (v := (0 : Int32)) B dX6_failures_27 (by decide) ?_
  refine g_iadd (v := (0 : Int32)) B dX6_failures_28 (by decide) ?_
  refine g_istore_n (lv' := [(0, .ref hm), (1, .int (0 : Int32)), (2, .int (3 : Int32))]) B dX6_failures_29 rfl (by decide) [1, 0, 2] rfl ?_
  refine g_iinc (lv' := [(0, .ref hm), (1, .int (0 : Int32)), (2, .int (4 : Int32))]) B dX6_failures_30 2 rfl (by decide) (by decide) [1, 2, 0] rfl ?_
  refine g_goto (tgt := 4) B dX6_failures_33 (by decide) ?_
  refine g_iload_n B dX6_failures_4 2 rfl ?_
  refine g_bipush (v := (12 : Int32)) B dX6_failures_5 (by decide) ?_
  refine g_icmp_gt (tgt := 36) B dX6_failures_7 (by decide) (fun c13 => absurd c13 (by decide)) (fun _ => ?_)
  refine g_iload_n B dX6_failures_10 1 rfl ?_
  refine g_aload_n B dX6_failures_11 0 rfl ?_
  refine g_bipush (v := (100 : Int32)) B dX6_failures_12 (by decide) ?_
  refine g_iload_n B dX6_failures_14 2 rfl ?_
  refine g_iadd (v := (104 : Int32)) B dX6_failures_15 (by decide) ?_
  refine g_iconst (v := (-1 : Int32)) B dX6_failures_16 (by decide) ?_
  refine g_callP (g_runV (q0 := 0) (ci := 6) B hK rfl rfl (PM.met (r_hasResult_0 l (D := D) (cI := cI) (cL := cL) (cZ := cZ) hm m1 m2 m3 m4 m5 m7 m9 m10 m11 m12 m13 m15 m16 m17 th dr rl (104 : Int32) (-1 : Int32) )) (gPp.pre (av := [.ref hm, .int (104 : Int32), .int (-1 : Int32)]) (wc := [(hm, .inr (6, [.int th, .ref m1, .ref m2, .ref m3, .ref m4, .ref m5, .int dr, .ref m7, .int (0 : Int32), .ref m9, .ref m10, .ref m11, .ref m12, .ref m13, .int rl, .ref m15, .ref m16, .ref m17]))]) hK hN [0] rfl (by decide)) gX6_failures_X6_hasResult rfl rfl kd_X6_hasResult ⟨by decide, by decide⟩ (st := [.int (0 : Int32)]) rfl (Nat.le_of_ble_eq_true rfl) dX6_failures_17 ⟨by decide, by decide⟩) (fun u hu => ?_)
  refine g_if_eq (tgt := 27) B dX6_failures_20 (by decide) (fun _ => ?_) (fun c15 => absurd (by decide) c15)
  refine g_iconst (v := (0 : Int32)) B dX6_failures_27 (by decide) ?_
  refine g_iadd (v := (0 : Int32)) B dX6_failures_28 (by decide) ?_
  refine g_istore_n (lv' := [(0, .ref hm), (1, .int (0 : Int32)), (2, .int (4 : Int32))]) B dX6_failures_29 rfl (by decide) [1, 0, 2] rfl ?_
  refine g_iinc (lv' := [(0, .ref hm), (1, .int (0 : Int32)), (2, .int (5 : Int32))]) B dX6_failures_30 2 rfl (by decide) (by decide) [1, 2, 0] rfl ?_
  refine g_goto (tgt := 4) B dX6_failures_33 (by decide) ?_
  refine g_iload_n B dX6_failures_4 2 rfl ?_
  refine g_bipush (v := (12 : Int32)) B dX6_failures_5 (by decide) ?_
  refine g_icmp_gt (tgt := 36) B dX6_failures_7 (by decide) (fun c16 => absurd c16 (by decide)) (fun _ => ?_)
  refine g_iload_n B dX6_failures_10 1 rfl ?_
  refine g_aload_n B dX6_failures_11 0 rfl ?_
  refine g_bipush (v := (100 : Int32)) B dX6_failures_12 (by decide) ?_
  refine g_iload_n B dX6_failures_14 2 rfl ?_
  refine g_iadd (v := (105 : Int32)) B dX6_failures_15 (by decide) ?_
  refine g_iconst (v := (-1 : Int32)) B dX6_failures_16 (by decide) ?_
  refine g_callP (g_runV (q0 := 0) (ci := 6) B hK rfl rfl (PM.met (r_hasResult_0 l (D := D) (cI := cI) (cL := cL) (cZ := cZ) hm m1 m2 m3 m4 m5 m7 m9 m10 m11 m12 m13 m15 m16 m17 th dr rl (105 : Int32) (-1 : Int32) )) (gPp.pre (av := [.ref hm, .int (105 : Int32), .int (-1 : Int32)]) (wc := [(hm, .inr (6, [.int th, .ref m1, .ref m2, .ref m3, .ref m4, .ref m5, .int dr, .ref m7, .int (0 : Int32), .ref m9, .ref m10, .ref m11, .ref m12, .ref m13, .int rl, .ref m15, .ref m16, .ref m17]))]) hK hN [0] rfl (by decide)) gX6_failures_X6_hasResult rfl rfl kd_X6_hasResult ⟨by decide, by decide⟩ (st := [.int (0 : Int32)]) rfl (Nat.le_of_ble_eq_true rfl) dX6_failures_17 ⟨by decide, by decide⟩) (fun u hu => ?_)
  refine g_if_eq (tgt := 27) B dX6_failures_20 (by decide) (fun _ => ?_) (fun c18 => absurd (by decide) c18)
  refine g_iconst (v := (0 : Int32)) B dX6_failures_27 (by decide) ?_
  refine g_iadd (v := (0 : Int32)) B dX6_failures_28 (by decide) ?_
  refine g_istore_n (lv' := [(0, .ref hm), (1, .int (0 : Int32)), (2, .int (5 : Int32))]) B dX6_failures_29 rfl (by decide) [1, 0, 2] rfl ?_
  refine g_iinc (lv' := [(0, .ref hm), (1, .int (0 : Int32)), (2, .int (6 : Int32))]) B dX6_failures_30 2 rfl (by decide) (by decide) [1, 2, 0] rfl ?_
  refine g_goto (tgt := 4) B dX6_failures_33 (by decide) ?_
  refine g_iload_n B dX6_failures_4 2 rfl ?_
  refine g_bipush (v := (12 : Int32)) B dX6_failures_5 (by decide) ?_
  refine g_icmp_gt (tgt := 36) B dX6_failures_7 (by decide) (fun c19 => absurd c19 (by decide)) (fun _ => ?_)
  refine g_iload_n B dX6_failures_10 1 rfl ?_
  refine g_aload_n B dX6_failures_11 0 rfl ?_
  refine g_bipush (v := (100 : Int32)) B dX6_failures_12 (by decide) ?_
  refine g_iload_n B dX6_failures_14 2 rfl ?_
  refine g_iadd (v := (106 : Int32)) B dX6_failures_15 (by decide) ?_
  refine g_iconst (v := (-1 : Int32)) B dX6_failures_16 (by decide) ?_
  refine g_callP (g_runV (q0 := 0) (ci := 6) B hK rfl rfl (PM.met (r_hasResult_0 l (D := D) (cI := cI) (cL := cL) (cZ := cZ) hm m1 m2 m3 m4 m5 m7 m9 m10 m11 m12 m13 m15 m16 m17 th dr rl (106 : Int32) (-1 : Int32) )) (gPp.pre (av := [.ref hm, .int (106 : Int32), .int (-1 : Int32)]) (wc := [(hm, .inr (6, [.int th, .ref m1, .ref m2, .ref m3, .ref m4, .ref m5, .int dr, .ref m7, .int (0 : Int32), .ref m9, .ref m10, .ref m11, .ref m12, .ref m13, .int rl, .ref m15, .ref m16, .ref m17]))]) hK hN [0] rfl (by decide)) gX6_failures_X6_hasResult rfl rfl kd_X6_hasResult ⟨by decide, by decide⟩ (st := [.int (0 : Int32)]) rfl (Nat.le_of_ble_eq_true rfl) dX6_failures_17 ⟨by decide, by decide⟩) (fun u hu => ?_)
  refine g_if_eq (tgt := 27) B dX6_failures_20 (by decide) (fun _ => ?_) (fun c21 => absurd (by decide) c21)
  refine g_iconst (v := (0 : Int32)) B dX6_failures_27 (by decide) ?_
  refine g_iadd (v := (0 : Int32)) B dX6_failures_28 (by decide) ?_
  refine g_istore_n (lv' := [(0, .ref hm), (1, .int (0 : Int32)), (2, .int (6 : Int32))]) B dX6_failures_29 rfl (by decide) [1, 0, 2] rfl ?_
  refine g_iinc (lv' := [(0, .ref hm), (1, .int (0 : Int32)), (2, .int (7 : Int32))]) B dX6_failures_30 2 rfl (by decide) (by decide) [1, 2, 0] rfl ?_
  refine g_goto (tgt := 4) B dX6_failures_33 (by decide) ?_
  refine g_iload_n B dX6_failures_4 2 rfl ?_
  refine g_bipush (v := (12 : Int32)) B dX6_failures_5 (by decide) ?_
  refine g_icmp_gt (tgt := 36) B dX6_failures_7 (by decide) (fun c22 => absurd c22 (by decide)) (fun _ => ?_)
  refine g_iload_n B dX6_failures_10 1 rfl ?_
  refine g_aload_n B dX6_failures_11 0 rfl ?_
  refine g_bipush (v := (100 : Int32)) B dX6_failures_12 (by decide) ?_
  refine g_iload_n B dX6_failures_14 2 rfl ?_
  refine g_iadd (v := (107 : Int32)) B dX6_failures_15 (by decide) ?_
  refine g_iconst (v := (-1 : Int32)) B dX6_failures_16 (by decide) ?_
  refine g_callP (g_runV (q0 := 0) (ci := 6) B hK rfl rfl (PM.met (r_hasResult_0 l (D := D) (cI := cI) (cL := cL) (cZ := cZ) hm m1 m2 m3 m4 m5 m7 m9 m10 m11 m12 m13 m15 m16 m17 th dr rl (107 : Int32) (-1 : Int32) )) (gPp.pre (av := [.ref hm, .int (107 : Int32), .int (-1 : Int32)]) (wc := [(hm, .inr (6, [.int th, .ref m1, .ref m2, .ref m3, .ref m4, .ref m5, .int dr, .ref m7, .int (0 : Int32), .ref m9, .ref m10, .ref m11, .ref m12, .ref m13, .int rl, .ref m15, .ref m16, .ref m17]))]) hK hN [0] rfl (by decide)) gX6_failures_X6_hasResult rfl rfl kd_X6_hasResult ⟨by decide, by decide⟩ (st := [.int (0 : Int32)]) rfl (Nat.le_of_ble_eq_true rfl) dX6_failures_17 ⟨by decide, by decide⟩) (fun u hu => ?_)
  refine g_if_eq (tgt := 27) B dX6_failures_20 (by decide) (fun _ => ?_) (fun c24 => absurd (by decide) c24)
  refine g_iconst (v := (0 : Int32)) B dX6_failures_27 (by decide) ?_
  refine g_iadd (v := (0 : Int32)) B dX6_failures_28 (by decide) ?_
  refine g_istore_n (lv' := [(0, .ref hm), (1, .int (0 : Int32)), (2, .int (7 : Int32))]) B dX6_failures_29 rfl (by decide) [1, 0, 2] rfl ?_
  refine g_iinc (lv' := [(0, .ref hm), (1, .int (0 : Int32)), (2, .int (8 : Int32))]) B dX6_failures_30 2 rfl (by decide) (by decide) [1, 2, 0] rfl ?_
  refine g_goto (tgt := 4) B dX6_failures_33 (by decide) ?_
  refine g_iload_n B dX6_failures_4 2 rfl ?_
  refine g_bipush (v := (12 : Int32)) B dX6_failures_5 (by decide) ?_
  refine g_icmp_gt (tgt := 36) B dX6_failures_7 (by decide) (fun c25 => absurd c25 (by decide)) (fun _ => ?_)
  refine g_iload_n B dX6_failures_10 1 rfl ?_
  refine g_aload_n B dX6_failures_11 0 rfl ?_
  refine g_bipush (v := (100 : Int32)) B dX6_failures_12 (by decide) ?_
  refine g_iload_n B dX6_failures_14 2 rfl ?_
  refine g_iadd (v := (108 : Int32)) B dX6_failures_15 (by decide) ?_
  refine g_iconst (v := (-1 : Int32)) B dX6_failures_16 (by decide) ?_
  refine g_callP (g_runV (q0 := 0) (ci := 6) B hK rfl rfl (PM.met (r_hasResult_0 l (D := D) (cI := cI) (cL := cL) (cZ := cZ) hm m1 m2 m3 m4 m5 m7 m9 m10 m11 m12 m13 m15 m16 m17 th dr rl (108 : Int32) (-1 : Int32) )) (gPp.pre (av := [.ref hm, .int (108 : Int32), .int (-1 : Int32)]) (wc := [(hm, .inr (6, [.int th, .ref m1, .ref m2, .ref m3, .ref m4, .ref m5, .int dr, .ref m7, .int (0 : Int32), .ref m9, .ref m10, .ref m11, .ref m12, .ref m13, .int rl, .ref m15, .ref m16, .ref m17]))]) hK hN [0] rfl (by decide)) gX6_failures_X6_hasResult rfl rfl kd_X6_hasResult ⟨by decide, by decide⟩ (st := [.int (0 : Int32)]) rfl (Nat.le_of_ble_eq_true rfl) dX6_failures_17 ⟨by decide, by decide⟩) (fun u hu => ?_)
  refine g_if_eq (tgt := 27) B dX6_failures_20 (by decide) (fun _ => ?_) (fun c27 => absurd (by decide) c27)
  refine g_iconst (v := (0 : Int32)) B dX6_failures_27 (by decide) ?_
  refine g_iadd (v := (0 : Int32)) B dX6_failures_28 (by decide) ?_
  refine g_istore_n (lv' := [(0, .ref hm), (1, .int (0 : Int32)), (2, .int (8 : Int32))]) B dX6_failures_29 rfl (by decide) [1, 0, 2] rfl ?_
  refine g_iinc (lv' := [(0, .ref hm), (1, .int (0 : Int32)), (2, .int (9 : Int32))]) B dX6_failures_30 2 rfl (by decide) (by decide) [1, 2, 0] rfl ?_
  refine g_goto (tgt := 4) B dX6_failures_33 (by decide) ?_
  refine g_iload_n B dX6_failures_4 2 rfl ?_
  refine g_bipush (v := (12 : Int32)) B dX6_failures_5 (by decide) ?_
  refine g_icmp_gt (tgt := 36) B dX6_failures_7 (by decide) (fun c28 => absurd c28 (by decide)) (fun _ => ?_)
  refine g_iload_n B dX6_failures_10 1 rfl ?_
  refine g_aload_n B dX6_failures_11 0 rfl ?_
  refine g_bipush (v := (100 : Int32)) B dX6_failures_12 (by decide) ?_
  refine g_iload_n B dX6_failures_14 2 rfl ?_
  refine g_iadd (v := (109 : Int32)) B dX6_failures_15 (by decide) ?_
  refine g_iconst (v := (-1 : Int32)) B dX6_failures_16 (by decide) ?_
  refine g_callP (g_runV (q0 := 0) (ci := 6) B hK rfl rfl (PM.met (r_hasResult_0 l (D := D) (cI := cI) (cL := cL) (cZ := cZ) hm m1 m2 m3 m4 m5 m7 m9 m10 m11 m12 m13 m15 m16 m17 th dr rl (109 : Int32) (-1 : Int32) )) (gPp.pre (av := [.ref hm, .int (109 : Int32), .int (-1 : Int32)]) (wc := [(hm, .inr (6, [.int th, .ref m1, .ref m2, .ref m3, .ref m4, .ref m5, .int dr, .ref m7, .int (0 : Int32), .ref m9, .ref m10, .ref m11, .ref m12, .ref m13, .int rl, .ref m15, .ref m16, .ref m17]))]) hK hN [0] rfl (by decide)) gX6_failures_X6_hasResult rfl rfl kd_X6_hasResult ⟨by decide, by decide⟩ (st := [.int (0 : Int32)]) rfl (Nat.le_of_ble_eq_true rfl) dX6_failures_17 ⟨by decide, by decide⟩) (fun u hu => ?_)
  refine g_if_eq (tgt := 27) B dX6_failures_20 (by decide) (fun _ => ?_) (fun c30 => absurd (by decide) c30)
  refine g_iconst (v := (0 : Int32)) B dX6_failures_27 (by decide) ?_
  refine g_iadd (v := (0 : Int32)) B dX6_failures_28 (by decide) ?_
  refine g_istore_n (lv' := [(0, .ref hm), (1, .int (0 : Int32)), (2, .int (9 : Int32))]) B dX6_failures_29 rfl (by decide) [1, 0, 2] rfl ?_
  refine g_iinc (lv' := [(0, .ref hm), (1, .int (0 : Int32)), (2, .int (10 : Int32))]) B dX6_failures_30 2 rfl (by decide) (by decide) [1, 2, 0] rfl ?_
  refine g_goto (tgt := 4) B dX6_failures_33 (by decide) ?_
  refine g_iload_n B dX6_failures_4 2 rfl ?_
  refine g_bipush (v := (12 : Int32)) B dX6_failures_5 (by decide) ?_
  refine g_icmp_gt (tgt := 36) B dX6_failures_7 (by decide) (fun c31 => absurd c31 (by decide)) (fun _ => ?_)
  refine g_iload_n B dX6_failures_10 1 rfl ?_
  refine g_aload_n B dX6_failures_11 0 rfl ?_
  refine g_bipush (v := (100 : Int32)) B dX6_failures_12 (by decide) ?_
  refine g_iload_n B dX6_failures_14 2 rfl ?_
  refine g_iadd (v := (110 : Int32)) B dX6_failures_15 (by decide) ?_
  refine g_iconst (v := (-1 : Int32)) B dX6_failures_16 (by decide) ?_
  refine g_callP (g_runV (q0 := 0) (ci := 6) B hK rfl rfl (PM.met (r_hasResult_0 l (D := D) (cI := cI) (cL := cL) (cZ := cZ) hm m1 m2 m3 m4 m5 m7 m9 m10 m11 m12 m13 m15 m16 m17 th dr rl (110 : Int32) (-1 : Int32) )) (gPp.pre (av := [.ref hm, .int (110 : Int32), .int (-1 : Int32)]) (wc := [(hm, .inr (6, [.int th, .ref m1, .ref m2, .ref m3, .ref m4, .ref m5, .int dr, .ref m7, .int (0 : Int32), .ref m9, .ref m10, .ref m11, .ref m12, .ref m13, .int rl, .ref m15, .ref m16, .ref m17]))]) hK hN [0] rfl (by decide)) gX6_failures_X6_hasResult rfl rfl kd_X6_hasResult ⟨by decide, by decide⟩ (st := [.int (0 : Int32)]) rfl (Nat.le_of_ble_eq_true rfl) dX6_failures_17 ⟨by decide, by decide⟩) (fun u hu => ?_)
  refine g_if_eq (tgt := 27) B dX6_failures_20 (by decide) (fun _ => ?_) (fun c33 => absurd (by decide) c33)
  refine g_iconst (v := (0 : Int32)) B dX6_failures_27 (by decide) ?_
  refine g_iadd (v := (0 : Int32)) B dX6_failures_28 (by decide) ?_
  refine g_istore_n (lv' := [(0, .ref hm), (1, .int (0 : Int32)), (2, .int (10 : Int32))]) B dX6_failures_29 rfl (by decide) [1, 0, 2] rfl ?_
  refine g_iinc (lv' := [(0, .ref hm), (1, .int (0 : Int32)), (2, .int (11 : Int32))]) B dX6_failures_30 2 rfl (by decide) (by decide) [1, 2, 0] rfl ?_
  refine g_goto (tgt := 4) B dX6_failures_33 (by decide) ?_
  refine g_iload_n B dX6_failures_4 2 rfl ?_
  refine g_bipush (v := (12 : Int32)) B dX6_failures_5 (by decide) ?_
  refine g_icmp_gt (tgt := 36) B dX6_failures_7 (by decide) (fun c34 => absurd c34 (by decide)) (fun _ => ?_)
  refine g_iload_n B dX6_failures_10 1 rfl ?_
  refine g_aload_n B dX6_failures_11 0 rfl ?_
  refine g_bipush (v := (100 : Int32)) B dX6_failures_12 (by decide) ?_
  refine g_iload_n B dX6_failures_14 2 rfl ?_
  refine g_iadd (v := (111 : Int32)) B dX6_failures_15 (by decide) ?_
  refine g_iconst (v := (-1 : Int32)) B dX6_failures_16 (by decide) ?_
  refine g_callP (g_runV (q0 := 0) (ci := 6) B hK rfl rfl (PM.met (r_hasResult_0 l (D := D) (cI := cI) (cL := cL) (cZ := cZ) hm m1 m2 m3 m4 m5 m7 m9 m10 m11 m12 m13 m15 m16 m17 th dr rl (111 : Int32) (-1 : Int32) )) (gPp.pre (av := [.ref hm, .int (111 : Int32), .int (-1 : Int32)]) (wc := [(hm, .inr (6, [.int th, .ref m1, .ref m2, .ref m3, .ref m4, .ref m5, .int dr, .ref m7, .int (0 : Int32), .ref m9, .ref m10, .ref m11, .ref m12, .ref m13, .int rl, .ref m15, .ref m16, .ref m17]))]) hK hN [0] rfl (by decide)) gX6_failures_X6_hasResult rfl rfl kd_X6_hasResult ⟨by decide, by decide⟩ (st := [.int (0 : Int32)]) rfl (Nat.le_of_ble_eq_true rfl) dX6_failures_17 ⟨by decide, by decide⟩) (fun u hu => ?_)
  refine g_if_eq (tgt := 27) B dX6_failures_20 (by decide) (fun _ => ?_) (fun c36 => absurd (by decide) c36)
  refine g_iconst (v := (0 : Int32)) B dX6_failures_27 (by decide) ?_
  refine g_iadd (v := (0 : Int32)) B dX6_failures_28 (by decide) ?_
  refine g_istore_n (lv' := [(0, .ref hm), (1, .int (0 : Int32)), (2, .int (11 : Int32))]) B dX6_failures_29 rfl (by decide) [1, 0, 2] rfl ?_
  refine g_iinc (lv' := [(0, .ref hm), (1, .int (0 : Int32)), (2, .int (12 : Int32))]) B dX6_failures_30 2 rfl (by decide) (by decide) [1, 2, 0] rfl ?_
  refine g_goto (tgt := 4) B dX6_failures_33 (by decide) ?_
  refine g_iload_n B dX6_failures_4 2 rfl ?_
  refine g_bipush (v := (12 : Int32)) B dX6_failures_5 (by decide) ?_
  refine g_icmp_gt (tgt := 36) B dX6_failures_7 (by decide) (fun c37 => absurd c37 (by decide)) (fun _ => ?_)
  refine g_iload_n B dX6_failures_10 1 rfl ?_
  refine g_aload_n B dX6_failures_11 0 rfl ?_
  refine g_bipush (v := (100 : Int32)) B dX6_failures_12 (by decide) ?_
  refine g_iload_n B dX6_failures_14 2 rfl ?_
  refine g_iadd (v := (112 : Int32)) B dX6_failures_15 (by decide) ?_
  refine g_iconst (v := (-1 : Int32)) B dX6_failures_16 (by decide) ?_
  refine g_callP (g_runV (q0 := 0) (ci := 6) B hK rfl rfl (PM.met (r_hasResult_0 l (D := D) (cI := cI) (cL := cL) (cZ := cZ) hm m1 m2 m3 m4 m5 m7 m9 m10 m11 m12 m13 m15 m16 m17 th dr rl (112 : Int32) (-1 : Int32) )) (gPp.pre (av := [.ref hm, .int (112 : Int32), .int (-1 : Int32)]) (wc := [(hm, .inr (6, [.int th, .ref m1, .ref m2, .ref m3, .ref m4, .ref m5, .int dr, .ref m7, .int (0 : Int32), .ref m9, .ref m10, .ref m11, .ref m12, .ref m13, .int rl, .ref m15, .ref m16, .ref m17]))]) hK hN [0] rfl (by decide)) gX6_failures_X6_hasResult rfl rfl kd_X6_hasResult ⟨by decide, by decide⟩ (st := [.int (0 : Int32)]) rfl (Nat.le_of_ble_eq_true rfl) dX6_failures_17 ⟨by decide, by decide⟩) (fun u hu => ?_)
  refine g_if_eq (tgt := 27) B dX6_failures_20 (by decide) (fun _ => ?_) (fun c39 => absurd (by decide) c39)
  refine g_iconst (v := (0 : Int32)) B dX6_failures_27 (by decide) ?_
  refine g_iadd (v := (0 : Int32)) B dX6_failures_28 (by decide) ?_
  refine g_istore_n (lv' := [(0, .ref hm), (1, .int (0 : Int32)), (2, .int (12 : Int32))]) B dX6_failures_29 rfl (by decide) [1, 0, 2] rfl ?_
  refine g_iinc (lv' := [(0, .ref hm), (1, .int (0 : Int32)), (2, .int (13 : Int32))]) B dX6_failures_30 2 rfl (by decide) (by decide) [1, 2, 0] rfl ?_
  refine g_goto (tgt := 4) B dX6_failures_33 (by decide) ?_
  refine g_iload_n B dX6_failures_4 2 rfl ?_
  refine g_bipush (v := (12 : Int32)) B dX6_failures_5 (by decide) ?_
  refine g_icmp_gt (tgt := 36) B dX6_failures_7 (by decide) (fun _ => ?_) (fun c40 => absurd (by decide) c40)
  refine g_iload_n B dX6_failures_36 1 rfl ?_
  exact g_iret_p B hr rfl hlocks () (rfl) (trivial) dX6_failures_37

set_option maxHeartbeats 4000000 in
set_option maxRecDepth 100000 in
theorem r_reachable_0 (l : Launch) {D : va_G} {cI cL cZ : ClassId} (hm : Nat) (m1 : Nat) (m2 : Nat) (m3 : Nat) (m4 : Nat) (m5 : Nat) (m7 : Nat) (m9 : Nat) (m10 : Nat) (m11 : Nat) (m12 : Nat) (m13 : Nat) (m15 : Nat) (m16 : Nat) (m17 : Nat) (th : Int32) (dr : Int32) (kn : Int32) (rl : Int32)  : PM l yX6_reachable wsX6_reachable ({ frames := 1, cells := 0, slots := 0, locals := 22 } : Room) D (gTys cI cL cZ) [.ref hm] [(hm, .inr (6, [.int th, .ref m1, .ref m2, .ref m3, .ref m4, .ref m5, .int dr, .ref m7, .int kn, .ref m9, .ref m10, .ref m11, .ref m12, .ref m13, .int rl, .ref m15, .ref m16, .ref m17])), (m4, .inl (cI, 24, .inl (fun _ => (-1 : Int32))))] (fun (_ : Unit) => True) (fun (_ : Unit) => some (.int (1 : Int32))) := by
  refine PM.ofG cX6_reachable 4 (some .int) (by decide +kernel) rfl (Nat.le_of_ble_eq_true rfl) ?_
  intro p e s m below meth c B hr hlocks hname hK hN
  refine g_iconst (v := (1 : Int32)) B dX6_reachable_0 (by decide) ?_
  refine g_istore_n (lv' := [(0, .ref hm), (1, .int (1 : Int32))]) B dX6_reachable_1 rfl (by decide) [1, 0] rfl ?_
  refine g_iconst (v := (0 : Int32)) B dX6_reachable_2 (by decide) ?_
  refine g_istore_n (lv' := [(0, .ref hm), (1, .int (1 : Int32)), (2, .int (0 : Int32))]) B dX6_reachable_3 rfl (by decide) [1, 2, 0] rfl ?_
  refine g_loop (σ := Nat) (fun x9 => x9 ≤ 12) (fun x9 => 13 - x9) (fun x9 => 0) (fun x9 => 0) (fun x9 => [(hm, .inr (6, [.int th, .ref m1, .ref m2, .ref m3, .ref m4, .ref m5, .int dr, .ref m7, .int kn, .ref m9, .ref m10, .ref m11, .ref m12, .ref m13, .int rl, .ref m15, .ref m16, .ref m17])), (m4, .inl (cI, 24, .inl (fun _ => (-1 : Int32))))]) (fun x9 => [(0, .ref hm), (1, .int (1 : Int32)), (2, .int (nI x9))]) (fun x9 hI ih4 => ?_) 0 (by (try dsimp only); omega) rfl rfl rfl rfl
  obtain ⟨k, e9⟩ : ∃ z, z = x9 := ⟨_, rfl⟩; subst e9
  try dsimp only at hI ih4 ⊢
  refine g_iload_n B dX6_reachable_4 2 rfl ?_
  refine g_bipush (v := (12 : Int32)) B dX6_reachable_5 (by decide) ?_
  refine g_ncmp_ge (tgt := 62) B k 12 rfl rfl (by omega) (by omega) dX6_reachable_7 (by decide) (fun c1 => ?_) (fun c1 => ?_)
  · refine g_iload_n B dX6_reachable_62 1 rfl ?_
    refine g_callP (g_runS B (PM.met (r_count_1 l (D := D) (cI := cI) (cL := cL) (cZ := cZ)  )) (gPp.pre (av := [.int (1 : Int32)]) (wc := []) hK hN [] rfl (by decide)) gX6_reachable_X6_count rfl kd_X6_count ⟨by decide, by decide⟩ (st := []) rfl (Nat.le_of_ble_eq_true rfl) dX6_reachable_63 ⟨by decide, by decide⟩) (fun u hu => ?_)
    exact g_iret_p B hr rfl hlocks () (rfl) (trivial) dX6_reachable_66
  · refine g_iconst (v := (0 : Int32)) B dX6_reachable_10 (by decide) ?_
    refine g_istore_n (lv' := [(0, .ref hm), (1, .int (1 : Int32)), (2, .int (nI k)), (3, .int (0 : Int32))]) B dX6_reachable_11 rfl (by decide) [1, 2, 3, 0] rfl ?_
    refine g_loop (σ := Nat) (fun x9 => x9 ≤ 24) (fun x9 => 25 - x9) (fun x9 => 0) (fun x9 => 0) (fun x9 => [(hm, .inr (6, [.int th, .ref m1, .ref m2, .ref m3, .ref m4, .ref m5, .int dr, .ref m7, .int kn, .ref m9, .ref m10, .ref m11, .ref m12, .ref m13, .int rl, .ref m15, .ref m16, .ref m17])), (m4, .inl (cI, 24, .inl (fun _ => (-1 : Int32))))]) (fun x9 => [(0, .ref hm), (1, .int (1 : Int32)), (2, .int (nI k)), (3, .int (nI x9))]) (fun x9 hI ih12 => ?_) 0 (by (try dsimp only); omega) rfl rfl rfl rfl
    obtain ⟨j, e9⟩ : ∃ z, z = x9 := ⟨_, rfl⟩; subst e9
    try dsimp only at hI ih12 ⊢
    refine g_iload_n B dX6_reachable_12 3 rfl ?_
    refine g_bipush (v := (24 : Int32)) B dX6_reachable_13 (by decide) ?_
    refine g_ncmp_ge (tgt := 56) B j 24 rfl rfl (by omega) (by omega) dX6_reachable_15 (by decide) (fun c3 => ?_) (fun c3 => ?_)
    · refine g_iinc (lv' := [(0, .ref hm), (1, .int (1 : Int32)), (2, .int (nI (k + 1))), (3, .int (nI j))]) B dX6_reachable_56 2 rfl (nI_1 k) (by decide) [1, 2, 0, 3] rfl ?_
      refine g_goto (tgt := 4) B dX6_reachable_59 (by decide) ?_
      exact g_pick [0, 1, 2] rfl (ih4 (k + 1) (by (try dsimp only); omega) (by (try dsimp only); omega))
    · refine g_iload_n B dX6_reachable_18 1 rfl ?_
      refine g_iload_n B dX6_reachable_19 3 rfl ?_
      refine g_iconst (v := (2 : Int32)) B dX6_reachable_20 (by decide) ?_
      refine g_idiv (v := nI (j / 2)) B dX6_reachable_21 (by decide) (pk_div (a := j) (d := 2) (by omega) (by decide) (by decide)) ?_
      refine g_ishr (v := ((1 : Int32) >>> (nI (j / 2) &&& 31))) B dX6_reachable_22 (rfl) ?_
      refine g_iconst (v := (1 : Int32)) B dX6_reachable_23 (by decide) ?_
      refine g_iand (v := (((1 : Int32) >>> (nI (j / 2) &&& 31)) &&& (1 : Int32))) B dX6_reachable_24 (rfl) ?_
      refine g_iconst (v := (1 : Int32)) B dX6_reachable_25 (by decide) ?_
      refine g_icmp_ne (tgt := 50) B dX6_reachable_26 (by decide) (fun c4 => ?_) (fun c4 => ?_)
      · refine g_iinc (lv' := [(0, .ref hm), (1, .int (1 : Int32)), (2, .int (nI k)), (3, .int (nI (j + 1)))]) B dX6_reachable_50 3 rfl (nI_1 j) (by decide) [1, 2, 3, 0] rfl ?_
        refine g_goto (tgt := 12) B dX6_reachable_53 (by decide) ?_
        exact ih12 (j + 1) (by (try dsimp only); omega) (by (try dsimp only); omega)
      · refine g_aload_n B dX6_reachable_29 0 rfl ?_
        refine g_get (C := RX6) (T := TX6) (N := 18) (ci := 6) B hK hin_X6_reachable_RX6 0 rfl rfl 4 (by decide) (List.mem_of_getElem? (i := 1) rfl) rfl (v := .ref m4) rfl dX6_reachable_30 ?_
        refine g_iload_n B dX6_reachable_33 3 rfl ?_
        refine g_iald B hK 1 0 rfl rfl j rfl (by omega) (by omega) (v := (-1 : Int32)) rfl dX6_reachable_34 ?_
        refine g_iconst (v := (-1 : Int32)) B dX6_reachable_35 (by decide) ?_
        refine g_icmp_eq (tgt := 50) B dX6_reachable_36 (by decide) (fun _ => ?_) (fun c5 => absurd (by decide) c5)
        refine g_iinc (lv' := [(0, .ref hm), (1, .int (1 : Int32)), (2, .int (nI k)), (3, .int (nI (j + 1)))]) B dX6_reachable_50 3 rfl (nI_1 j) (by decide) [1, 2, 3, 0] rfl ?_
        refine g_goto (tgt := 12) B dX6_reachable_53 (by decide) ?_
        exact ih12 (j + 1) (by (try dsimp only); omega) (by (try dsimp only); omega)

set_option maxHeartbeats 4000000 in
set_option maxRecDepth 100000 in
theorem r_manyNow_0 (l : Launch) {D : va_G} {cI cL cZ : ClassId} (hm : Nat) (m1 : Nat) (m2 : Nat) (m3 : Nat) (m4 : Nat) (m5 : Nat) (m7 : Nat) (m9 : Nat) (m10 : Nat) (m11 : Nat) (m12 : Nat) (m13 : Nat) (m15 : Nat) (m16 : Nat) (m17 : Nat) (th : Int32) (dr : Int32) (rl : Int32)  : PM l yX6_manyNow wsX6_manyNow ({ frames := 0, cells := 0, slots := 0, locals := 0 } : Room) D (gTys cI cL cZ) [.ref hm, .int (0 : Int32)] [(hm, .inr (6, [.int th, .ref m1, .ref m2, .ref m3, .ref m4, .ref m5, .int dr, .ref m7, .int (0 : Int32), .ref m9, .ref m10, .ref m11, .ref m12, .ref m13, .int rl, .ref m15, .ref m16, .ref m17]))] (fun (_ : Unit) => True) (fun (_ : Unit) => some (.int (0 : Int32))) := by
  refine PM.ofG cX6_manyNow 2 (some .int) (by decide +kernel) rfl (Nat.le_of_ble_eq_true rfl) ?_
  intro p e s m below meth c B hr hlocks hname hK hN
  refine g_iload_n B dX6_manyNow_0 1 rfl ?_
  refine g_tableIn (off := 43) (tgt := 44) B dX6_manyNow_1 (by decide) (by decide) (by decide) (by decide) ?_
  refine g_aload_n B dX6_manyNow_44 0 rfl ?_
  refine g_get (C := RX6) (T := TX6) (N := 18) (ci := 6) B hK hin_X6_manyNow_RX6 0 rfl rfl 8 (by decide) (List.mem_of_getElem? (i := 1) rfl) rfl (v := .int (0 : Int32)) rfl dX6_manyNow_45 ?_
  exact g_iret_p B hr rfl hlocks () (rfl) (trivial) dX6_manyNow_48

set_option maxHeartbeats 4000000 in
set_option maxRecDepth 100000 in
theorem r_manyNow_1 (l : Launch) {D : va_G} {cI cL cZ : ClassId} (hm : Nat) (m1 : Nat) (m2 : Nat) (m3 : Nat) (m4 : Nat) (m5 : Nat) (m7 : Nat) (m9 : Nat) (m10 : Nat) (m11 : Nat) (m12 : Nat) (m13 : Nat) (m15 : Nat) (m16 : Nat) (m17 : Nat) (th : Int32) (dr : Int32) (rl : Int32)  : PM l yX6_manyNow wsX6_manyNow ({ frames := 1, cells := 0, slots := 0, locals := 22 } : Room) D (gTys cI cL cZ) [.ref hm, .int (1 : Int32)] [(hm, .inr (6, [.int th, .ref m1, .ref m2, .ref m3, .ref m4, .ref m5, .int dr, .ref m7, .int (0 : Int32), .ref m9, .ref m10, .ref m11, .ref m12, .ref m13, .int rl, .ref m15, .ref m16, .ref m17]))] (fun (_ : Unit) => True) (fun (_ : Unit) => some (.int (0 : Int32))) := by
  refine PM.ofG cX6_manyNow 2 (some .int) (by decide +kernel) rfl (Nat.le_of_ble_eq_true rfl) ?_
  intro p e s m below meth c B hr hlocks hname hK hN
  refine g_iload_n B dX6_manyNow_0 1 rfl ?_
  refine g_tableIn (off := 48) (tgt := 49) B dX6_manyNow_1 (by decide) (by decide) (by decide) (by decide) ?_
  refine g_aload_n B dX6_manyNow_49 0 rfl ?_
  refine g_callP (g_runV (q0 := 0) (ci := 6) B hK rfl rfl (PM.met (r_kept_0 l (D := D) (cI := cI) (cL := cL) (cZ := cZ) hm m1 m2 m3 m4 m5 m7 m9 m10 m11 m12 m13 m15 m16 m17 th dr rl )) (gPp.pre (av := [.ref hm]) (wc := [(hm, .inr (6, [.int th, .ref m1, .ref m2, .ref m3, .ref m4, .ref m5, .int dr, .ref m7, .int (0 : Int32), .ref m9, .ref m10, .ref m11, .ref m12, .ref m13, .int rl, .ref m15, .ref m16, .ref m17]))]) hK hN [0] rfl (by decide)) gX6_manyNow_X6_kept rfl rfl kd_X6_kept ⟨by decide, by decide⟩ (st := []) rfl (Nat.le_of_ble_eq_true rfl) dX6_manyNow_50 ⟨by decide, by decide⟩) (fun u hu => ?_)
  exact g_iret_p B hr rfl hlocks () (rfl) (trivial) dX6_manyNow_53

set_option maxHeartbeats 4000000 in
set_option maxRecDepth 100000 in
theorem r_manyNow_2 (l : Launch) {D : va_G} {cI cL cZ : ClassId} (hm : Nat) (m1 : Nat) (m2 : Nat) (m3 : Nat) (m4 : Nat) (m5 : Nat) (m7 : Nat) (m9 : Nat) (m10 : Nat) (m11 : Nat) (m12 : Nat) (m13 : Nat) (m15 : Nat) (m16 : Nat) (m17 : Nat) (th : Int32) (dr : Int32) (rl : Int32)  : PM l yX6_manyNow wsX6_manyNow ({ frames := 1, cells := 0, slots := 0, locals := 23 } : Room) D (gTys cI cL cZ) [.ref hm, .int (2 : Int32)] [(hm, .inr (6, [.int th, .ref m1, .ref m2, .ref m3, .ref m4, .ref m5, .int dr, .ref m7, .int (0 : Int32), .ref m9, .ref m10, .ref m11, .ref m12, .ref m13, .int rl, .ref m15, .ref m16, .ref m17]))] (fun (_ : Unit) => True) (fun (_ : Unit) => some (.int (0 : Int32))) := by
  refine PM.ofG cX6_manyNow 2 (some .int) (by decide +kernel) rfl (Nat.le_of_ble_eq_true rfl) ?_
  intro p e s m below meth c B hr hlocks hname hK hN
  refine g_iload_n B dX6_manyNow_0 1 rfl ?_
  refine g_tableIn (off := 53) (tgt := 54) B dX6_manyNow_1 (by decide) (by decide) (by decide) (by decide) ?_
  refine g_aload_n B dX6_manyNow_54 0 rfl ?_
  refine g_iconst (v := (-1 : Int32)) B dX6_manyNow_55 (by decide) ?_
  refine g_callP (g_runV (q0 := 0) (ci := 6) B hK rfl rfl (PM.met (r_keptEdges_0 l (D := D) (cI := cI) (cL := cL) (cZ := cZ) hm m1 m2 m3 m4 m5 m7 m9 m10 m11 m12 m13 m15 m16 m17 th dr rl (-1 : Int32) )) (gPp.pre (av := [.ref hm, .int (-1 : Int32)]) (wc := [(hm, .inr (6, [.int th, .ref m1, .ref m2, .ref m3, .ref m4, .ref m5, .int dr, .ref m7, .int (0 : Int32), .ref m9, .ref m10, .ref m11, .ref m12, .ref m13, .int rl, .ref m15, .ref m16, .ref m17]))]) hK hN [0] rfl (by decide)) gX6_manyNow_X6_keptEdges rfl rfl kd_X6_keptEdges ⟨by decide, by decide⟩ (st := []) rfl (Nat.le_of_ble_eq_true rfl) dX6_manyNow_56 ⟨by decide, by decide⟩) (fun u hu => ?_)
  refine g_callP (g_runS B (PM.met (r_count_0 l (D := D) (cI := cI) (cL := cL) (cZ := cZ)  )) (gPp.pre (av := [.int (0 : Int32)]) (wc := []) hK hN [] rfl (by decide)) gX6_manyNow_X6_count rfl kd_X6_count ⟨by decide, by decide⟩ (st := []) rfl (Nat.le_of_ble_eq_true rfl) dX6_manyNow_59 ⟨by decide, by decide⟩) (fun u hu => ?_)
  exact g_iret_p B hr rfl hlocks () (rfl) (trivial) dX6_manyNow_62

set_option maxHeartbeats 4000000 in
set_option maxRecDepth 100000 in
theorem r_manyNow_3 (l : Launch) {D : va_G} {cI cL cZ : ClassId} (hm : Nat) (m1 : Nat) (m2 : Nat) (m3 : Nat) (m4 : Nat) (m5 : Nat) (m7 : Nat) (m9 : Nat) (m10 : Nat) (m11 : Nat) (m12 : Nat) (m13 : Nat) (m15 : Nat) (m16 : Nat) (m17 : Nat) (th : Int32) (dr : Int32) (rl : Int32)  : PM l yX6_manyNow wsX6_manyNow ({ frames := 1, cells := 0, slots := 0, locals := 22 } : Room) D (gTys cI cL cZ) [.ref hm, .int (3 : Int32)] [(hm, .inr (6, [.int th, .ref m1, .ref m2, .ref m3, .ref m4, .ref m5, .int dr, .ref m7, .int (0 : Int32), .ref m9, .ref m10, .ref m11, .ref m12, .ref m13, .int rl, .ref m15, .ref m16, .ref m17]))] (fun (_ : Unit) => True) (fun (_ : Unit) => some (.int (0 : Int32))) := by
  refine PM.ofG cX6_manyNow 2 (some .int) (by decide +kernel) rfl (Nat.le_of_ble_eq_true rfl) ?_
  intro p e s m below meth c B hr hlocks hname hK hN
  refine g_iload_n B dX6_manyNow_0 1 rfl ?_
  refine g_tableIn (off := 62) (tgt := 63) B dX6_manyNow_1 (by decide) (by decide) (by decide) (by decide) ?_
  refine g_aload_n B dX6_manyNow_63 0 rfl ?_
  refine g_callP (g_runV (q0 := 0) (ci := 6) B hK rfl rfl (PM.met (r_knownEdges_0 l (D := D) (cI := cI) (cL := cL) (cZ := cZ) hm m1 m2 m3 m4 m5 m7 m9 m10 m11 m12 m13 m15 m16 m17 th dr rl )) (gPp.pre (av := [.ref hm]) (wc := [(hm, .inr (6, [.int th, .ref m1, .ref m2, .ref m3, .ref m4, .ref m5, .int dr, .ref m7, .int (0 : Int32), .ref m9, .ref m10, .ref m11, .ref m12, .ref m13, .int rl, .ref m15, .ref m16, .ref m17]))]) hK hN [0] rfl (by decide)) gX6_manyNow_X6_knownEdges rfl rfl kd_X6_knownEdges ⟨by decide, by decide⟩ (st := []) rfl (Nat.le_of_ble_eq_true rfl) dX6_manyNow_64 ⟨by decide, by decide⟩) (fun u hu => ?_)
  refine g_callP (g_runS B (PM.met (r_count_0 l (D := D) (cI := cI) (cL := cL) (cZ := cZ)  )) (gPp.pre (av := [.int (0 : Int32)]) (wc := []) hK hN [] rfl (by decide)) gX6_manyNow_X6_count rfl kd_X6_count ⟨by decide, by decide⟩ (st := []) rfl (Nat.le_of_ble_eq_true rfl) dX6_manyNow_67 ⟨by decide, by decide⟩) (fun u hu => ?_)
  exact g_iret_p B hr rfl hlocks () (rfl) (trivial) dX6_manyNow_70

set_option maxHeartbeats 4000000 in
set_option maxRecDepth 100000 in
theorem r_manyNow_4 (l : Launch) {D : va_G} {cI cL cZ : ClassId} (hm : Nat) (m1 : Nat) (m2 : Nat) (m3 : Nat) (m4 : Nat) (m5 : Nat) (m7 : Nat) (m9 : Nat) (m10 : Nat) (m11 : Nat) (m12 : Nat) (m13 : Nat) (m15 : Nat) (m16 : Nat) (m17 : Nat) (th : Int32) (dr : Int32) (rl : Int32)  : PM l yX6_manyNow wsX6_manyNow ({ frames := 2, cells := 0, slots := 0, locals := 45 } : Room) D (gTys cI cL cZ) [.ref hm, .int (4 : Int32)] [(hm, .inr (6, [.int th, .ref m1, .ref m2, .ref m3, .ref m4, .ref m5, .int dr, .ref m7, .int (0 : Int32), .ref m9, .ref m10, .ref m11, .ref m12, .ref m13, .int rl, .ref m15, .ref m16, .ref m17]))] (fun (_ : Unit) => True) (fun (_ : Unit) => some (.int (0 : Int32))) := by
  refine PM.ofG cX6_manyNow 2 (some .int) (by decide +kernel) rfl (Nat.le_of_ble_eq_true rfl) ?_
  intro p e s m below meth c B hr hlocks hname hK hN
  refine g_iload_n B dX6_manyNow_0 1 rfl ?_
  refine g_tableIn (off := 70) (tgt := 71) B dX6_manyNow_1 (by decide) (by decide) (by decide) (by decide) ?_
  refine g_aload_n B dX6_manyNow_71 0 rfl ?_
  refine g_callP (g_runV (q0 := 0) (ci := 6) B hK rfl rfl (PM.met (r_failures_0 l (D := D) (cI := cI) (cL := cL) (cZ := cZ) hm m1 m2 m3 m4 m5 m7 m9 m10 m11 m12 m13 m15 m16 m17 th dr rl )) (gPp.pre (av := [.ref hm]) (wc := [(hm, .inr (6, [.int th, .ref m1, .ref m2, .ref m3, .ref m4, .ref m5, .int dr, .ref m7, .int (0 : Int32), .ref m9, .ref m10, .ref m11, .ref m12, .ref m13, .int rl, .ref m15, .ref m16, .ref m17]))]) hK hN [0] rfl (by decide)) gX6_manyNow_X6_failures rfl rfl kd_X6_failures ⟨by decide, by decide⟩ (st := []) rfl (Nat.le_of_ble_eq_true rfl) dX6_manyNow_72 ⟨by decide, by decide⟩) (fun u hu => ?_)
  exact g_iret_p B hr rfl hlocks () (rfl) (trivial) dX6_manyNow_75

set_option maxHeartbeats 4000000 in
set_option maxRecDepth 100000 in
theorem r_manyNow_5 (l : Launch) {D : va_G} {cI cL cZ : ClassId} (hm : Nat) (m1 : Nat) (m2 : Nat) (m3 : Nat) (m4 : Nat) (m5 : Nat) (m7 : Nat) (m9 : Nat) (m10 : Nat) (m11 : Nat) (m12 : Nat) (m13 : Nat) (m15 : Nat) (m16 : Nat) (m17 : Nat) (th : Int32) (dr : Int32)  : PM l yX6_manyNow wsX6_manyNow ({ frames := 0, cells := 0, slots := 0, locals := 0 } : Room) D (gTys cI cL cZ) [.ref hm, .int (5 : Int32)] [(hm, .inr (6, [.int th, .ref m1, .ref m2, .ref m3, .ref m4, .ref m5, .int dr, .ref m7, .int (0 : Int32), .ref m9, .ref m10, .ref m11, .ref m12, .ref m13, .int (0 : Int32), .ref m15, .ref m16, .ref m17]))] (fun (_ : Unit) => True) (fun (_ : Unit) => some (.int (0 : Int32))) := by
  refine PM.ofG cX6_manyNow 2 (some .int) (by decide +kernel) rfl (Nat.le_of_ble_eq_true rfl) ?_
  intro p e s m below meth c B hr hlocks hname hK hN
  refine g_iload_n B dX6_manyNow_0 1 rfl ?_
  refine g_tableIn (off := 75) (tgt := 76) B dX6_manyNow_1 (by decide) (by decide) (by decide) (by decide) ?_
  refine g_aload_n B dX6_manyNow_76 0 rfl ?_
  refine g_get (C := RX6) (T := TX6) (N := 18) (ci := 6) B hK hin_X6_manyNow_RX6 0 rfl rfl 14 (by decide) (List.mem_of_getElem? (i := 2) rfl) rfl (v := .int (0 : Int32)) rfl dX6_manyNow_77 ?_
  exact g_iret_p B hr rfl hlocks () (rfl) (trivial) dX6_manyNow_80

set_option maxHeartbeats 4000000 in
set_option maxRecDepth 100000 in
theorem r_manyNow_6 (l : Launch) {D : va_G} {cI cL cZ : ClassId} (hm : Nat) (m1 : Nat) (m2 : Nat) (m3 : Nat) (m4 : Nat) (m5 : Nat) (m7 : Nat) (m9 : Nat) (m10 : Nat) (m11 : Nat) (m12 : Nat) (m13 : Nat) (m15 : Nat) (m16 : Nat) (m17 : Nat) (th : Int32) (dr : Int32) (rl : Int32)  : PM l yX6_manyNow wsX6_manyNow ({ frames := 0, cells := 0, slots := 0, locals := 0 } : Room) D (gTys cI cL cZ) [.ref hm, .int (6 : Int32)] [(hm, .inr (6, [.int th, .ref m1, .ref m2, .ref m3, .ref m4, .ref m5, .int dr, .ref m7, .int (0 : Int32), .ref m9, .ref m10, .ref m11, .ref m12, .ref m13, .int rl, .ref m15, .ref m16, .ref m17]))] (fun (_ : Unit) => True) (fun (_ : Unit) => some (.int dr)) := by
  refine PM.ofG cX6_manyNow 2 (some .int) (by decide +kernel) rfl (Nat.le_of_ble_eq_true rfl) ?_
  intro p e s m below meth c B hr hlocks hname hK hN
  refine g_iload_n B dX6_manyNow_0 1 rfl ?_
  refine g_tableIn (off := 80) (tgt := 81) B dX6_manyNow_1 (by decide) (by decide) (by decide) (by decide) ?_
  refine g_aload_n B dX6_manyNow_81 0 rfl ?_
  refine g_get (C := RX6) (T := TX6) (N := 18) (ci := 6) B hK hin_X6_manyNow_RX6 0 rfl rfl 6 (by decide) (List.mem_of_getElem? (i := 3) rfl) rfl (v := .int dr) rfl dX6_manyNow_82 ?_
  exact g_iret_p B hr rfl hlocks () (rfl) (trivial) dX6_manyNow_85

set_option maxHeartbeats 4000000 in
set_option maxRecDepth 100000 in
theorem r_manyNow_7 (l : Launch) {D : va_G} {cI cL cZ : ClassId} (hm : Nat) (m1 : Nat) (m2 : Nat) (m3 : Nat) (m4 : Nat) (m5 : Nat) (m7 : Nat) (m9 : Nat) (m10 : Nat) (m11 : Nat) (m12 : Nat) (m13 : Nat) (m15 : Nat) (m16 : Nat) (m17 : Nat) (th : Int32) (dr : Int32) (rl : Int32)  : PM l yX6_manyNow wsX6_manyNow ({ frames := 2, cells := 0, slots := 0, locals := 45 } : Room) D (gTys cI cL cZ) [.ref hm, .int (7 : Int32)] [(hm, .inr (6, [.int th, .ref m1, .ref m2, .ref m3, .ref m4, .ref m5, .int dr, .ref m7, .int (0 : Int32), .ref m9, .ref m10, .ref m11, .ref m12, .ref m13, .int rl, .ref m15, .ref m16, .ref m17])), (m4, .inl (cI, 24, .inl (fun _ => (-1 : Int32))))] (fun (_ : Unit) => True) (fun (_ : Unit) => some (.int (1 : Int32))) := by
  refine PM.ofG cX6_manyNow 2 (some .int) (by decide +kernel) rfl (Nat.le_of_ble_eq_true rfl) ?_
  intro p e s m below meth c B hr hlocks hname hK hN
  refine g_iload_n B dX6_manyNow_0 1 rfl ?_
  refine g_tableOut (tgt := 86) B dX6_manyNow_1 (by decide) (by decide) ?_
  refine g_aload_n B dX6_manyNow_86 0 rfl ?_
  refine g_callP (g_runV (q0 := 0) (ci := 6) B hK rfl rfl (PM.met (r_reachable_0 l (D := D) (cI := cI) (cL := cL) (cZ := cZ) hm m1 m2 m3 m4 m5 m7 m9 m10 m11 m12 m13 m15 m16 m17 th dr (0 : Int32) rl )) (gPp.pre (av := [.ref hm]) (wc := [(hm, .inr (6, [.int th, .ref m1, .ref m2, .ref m3, .ref m4, .ref m5, .int dr, .ref m7, .int (0 : Int32), .ref m9, .ref m10, .ref m11, .ref m12, .ref m13, .int rl, .ref m15, .ref m16, .ref m17])), (m4, .inl (cI, 24, .inl (fun _ => (-1 : Int32))))]) hK hN [0, 1] rfl (by decide)) gX6_manyNow_X6_reachable rfl rfl kd_X6_reachable ⟨by decide, by decide⟩ (st := []) rfl (Nat.le_of_ble_eq_true rfl) dX6_manyNow_87 ⟨by decide, by decide⟩) (fun u hu => ?_)
  exact g_iret_p B hr rfl hlocks () (rfl) (trivial) dX6_manyNow_90

set_option maxHeartbeats 4000000 in
set_option maxRecDepth 100000 in
theorem r_many_x0 (l : Launch) {D : va_G} {cI cL cZ : ClassId} (hm : Nat) (m1 : Nat) (m2 : Nat) (m3 : Nat) (m4 : Nat) (m5 : Nat) (m7 : Nat) (m9 : Nat) (m10 : Nat) (m11 : Nat) (m12 : Nat) (m13 : Nat) (m15 : Nat) (m16 : Nat) (m17 : Nat) (th : Int32) (dr : Int32) (rl : Int32) (a1 : Int32) (h1 : inR a1 0 7 = false) : WM l yX6_many wsX6_many ({ frames := 1, cells := 0, slots := 0, locals := 22 } : Room) D (gTys cI cL cZ) [.ref hm, .int a1] [(hm, .inr (6, [.int th, .ref m1, .ref m2, .ref m3, .ref m4, .ref m5, .int dr, .ref m7, .int (0 : Int32), .ref m9, .ref m10, .ref m11, .ref m12, .ref m13, .int rl, .ref m15, .ref m16, .ref m17]))] (fun (_ : Unit) => True) (fun (_ : Unit) => some (.int (0 : Int32))) (fun (_ : Unit) => [(hm, .inr (6, [.int (1 : Int32), .ref m1, .ref m2, .ref m3, .ref m4, .ref m5, .int dr, .ref m7, .int (0 : Int32), .ref m9, .ref m10, .ref m11, .ref m12, .ref m13, .int rl, .ref m15, .ref m16, .ref m17]))]) := by
  refine WM.ofG cX6_many 2 (some .int) (by decide +kernel) rfl (Nat.le_of_ble_eq_true rfl) ?_
  intro p e s m below meth c A hA B hr hlocks hname hK hN
  refine g_aload_n B dX6_many_0 0 rfl ?_
  refine g_iconst (v := (0 : Int32)) B dX6_many_1 (by decide) ?_
  refine g_put (C := RX6) (T := TX6) (N := 18) (ci := 6) B hK hin_X6_many_RX6 0 rfl rfl 0 (by decide) tyX6 tyX6_ok nmX6 (List.mem_of_getElem? (i := 1) rfl) rfl rfl (ty := .int) (v := .int (0 : Int32)) (by decide +kernel) rfl rfl (Nat.le_of_ble_eq_true rfl) (w2 := [(hm, .inr (6, [.int (0 : Int32), .ref m1, .ref m2, .ref m3, .ref m4, .ref m5, .int dr, .ref m7, .int (0 : Int32), .ref m9, .ref m10, .ref m11, .ref m12, .ref m13, .int rl, .ref m15, .ref m16, .ref m17]))]) rfl (fun _ h => h) dX6_many_2 ?_
  refine g_iload_n B dX6_many_5 1 rfl ?_
  refine g_iconst (v := (0 : Int32)) B dX6_many_6 (by decide) ?_
  refine g_bipush (v := (7 : Int32)) B dX6_many_7 (by decide) ?_
  refine g_callP (g_runS B (PM.met (r_isIn_f l (D := D) (cI := cI) (cL := cL) (cZ := cZ) a1 (0 : Int32) (7 : Int32) (by first | assumption | exact hy (by assumption) | exact hz (by assumption)))) (gPp.pre (av := [.int a1, .int (0 : Int32), .int (7 : Int32)]) (wc := []) hK hN [] rfl (by decide)) gX6_many_X6_isIn rfl kd_X6_isIn ⟨by decide, by decide⟩ (st := []) rfl (Nat.le_of_ble_eq_true rfl) dX6_many_9 ⟨by decide, by decide⟩) (fun u hu => ?_)
  refine g_if_eq (tgt := 23) B dX6_many_12 (by decide) (fun _ => ?_) (fun c2 => absurd (by decide) c2)
  refine g_aload_n B dX6_many_23 0 rfl ?_
  refine g_iconst (v := (1 : Int32)) B dX6_many_24 (by decide) ?_
  refine g_callW (w2 := (fun (_ : Unit) => [(hm, .inr (6, [.int (1 : Int32), .ref m1, .ref m2, .ref m3, .ref m4, .ref m5, .int dr, .ref m7, .int (0 : Int32), .ref m9, .ref m10, .ref m11, .ref m12, .ref m13, .int rl, .ref m15, .ref m16, .ref m17]))])) (g_runV (q0 := 0) (ci := 6) B hK rfl rfl (r_no l (D := D) (cI := cI) (cL := cL) (cZ := cZ) hm m1 m2 m3 m4 m5 m7 m9 m10 m11 m12 m13 m15 m16 m17 (0 : Int32) dr (0 : Int32) rl (1 : Int32) ) (gPw.pre (av := [.ref hm, .int (1 : Int32)]) (wc := [(hm, .inr (6, [.int (0 : Int32), .ref m1, .ref m2, .ref m3, .ref m4, .ref m5, .int dr, .ref m7, .int (0 : Int32), .ref m9, .ref m10, .ref m11, .ref m12, .ref m13, .int rl, .ref m15, .ref m16, .ref m17]))]) hK hN [0] rfl (by decide)) gX6_many_X6_no rfl rfl kd_X6_no ⟨by decide, by decide⟩ (st := []) rfl (Nat.le_of_ble_eq_true rfl) dX6_many_25 ⟨by decide, by decide⟩) hA (fun _ h => h) [0] [] (wr := []) rfl rfl (by decide) (by decide) [0] (by decide) (fun _ => rfl) (fun u hu => ?_)
  exact g_iret_w B hr rfl hlocks () (rfl) (trivial) [0] (by decide) rfl dX6_many_28

set_option maxHeartbeats 4000000 in
set_option maxRecDepth 100000 in
theorem r_many_0 (l : Launch) {D : va_G} {cI cL cZ : ClassId} (hm : Nat) (m1 : Nat) (m2 : Nat) (m3 : Nat) (m4 : Nat) (m5 : Nat) (m7 : Nat) (m9 : Nat) (m10 : Nat) (m11 : Nat) (m12 : Nat) (m13 : Nat) (m15 : Nat) (m16 : Nat) (m17 : Nat) (th : Int32) (rl : Int32)  : WM l yX6_many wsX6_many ({ frames := 1, cells := 0, slots := 0, locals := 22 } : Room) D (gTys cI cL cZ) [.ref hm, .int (0 : Int32)] [(hm, .inr (6, [.int th, .ref m1, .ref m2, .ref m3, .ref m4, .ref m5, .int (1 : Int32), .ref m7, .int (0 : Int32), .ref m9, .ref m10, .ref m11, .ref m12, .ref m13, .int rl, .ref m15, .ref m16, .ref m17]))] (fun (_ : Unit) => True) (fun (_ : Unit) => some (.int (0 : Int32))) (fun (_ : Unit) => [(hm, .inr (6, [.int (0 : Int32), .ref m1, .ref m2, .ref m3, .ref m4, .ref m5, .int (1 : Int32), .ref m7, .int (0 : Int32), .ref m9, .ref m10, .ref m11, .ref m12, .ref m13, .int rl, .ref m15, .ref m16, .ref m17]))]) := by
  refine WM.ofG cX6_many 2 (some .int) (by decide +kernel) rfl (Nat.le_of_ble_eq_true rfl) ?_
  intro p e s m below meth c A hA B hr hlocks hname hK hN
  refine g_aload_n B dX6_many_0 0 rfl ?_
  refine g_iconst (v := (0 : Int32)) B dX6_many_1 (by decide) ?_
  refine g_put (C := RX6) (T := TX6) (N := 18) (ci := 6) B hK hin_X6_many_RX6 0 rfl rfl 0 (by decide) tyX6 tyX6_ok nmX6 (List.mem_of_getElem? (i := 1) rfl) rfl rfl (ty := .int) (v := .int (0 : Int32)) (by decide +kernel) rfl rfl (Nat.le_of_ble_eq_true rfl) (w2 := [(hm, .inr (6, [.int (0 : Int32), .ref m1, .ref m2, .ref m3, .ref m4, .ref m5, .int (1 : Int32), .ref m7, .int (0 : Int32), .ref m9, .ref m10, .ref m11, .ref m12, .ref m13, .int rl, .ref m15, .ref m16, .ref m17]))]) rfl (fun _ h => h) dX6_many_2 ?_
  refine g_iload_n B dX6_many_5 1 rfl ?_
  refine g_iconst (v := (0 : Int32)) B dX6_many_6 (by decide) ?_
  refine g_bipush (v := (7 : Int32)) B dX6_many_7 (by decide) ?_
  refine g_callP (g_runS B (PM.met (r_isIn_n l (D := D) (cI := cI) (cL := cL) (cZ := cZ) 0 0 7 (by omega) (by omega) (by omega))) (gPp.pre (av := [.int (0 : Int32), .int (0 : Int32), .int (7 : Int32)]) (wc := []) hK hN [] rfl (by decide)) gX6_many_X6_isIn rfl kd_X6_isIn ⟨by decide, by decide⟩ (st := []) rfl (Nat.le_of_ble_eq_true rfl) dX6_many_9 ⟨by decide, by decide⟩) (fun u hu => ?_)
  refine g_if_eq (tgt := 23) B dX6_many_12 (by decide) (fun c2 => absurd c2 (by decide)) (fun _ => ?_)
  refine g_aload_n B dX6_many_15 0 rfl ?_
  refine g_iload_n B dX6_many_16 1 rfl ?_
  refine g_callP (g_runV (q0 := 0) (ci := 6) B hK rfl rfl (PM.met (r_manyNow_0 l (D := D) (cI := cI) (cL := cL) (cZ := cZ) hm m1 m2 m3 m4 m5 m7 m9 m10 m11 m12 m13 m15 m16 m17 (0 : Int32) (1 : Int32) rl )) (gPp.pre (av := [.ref hm, .int (0 : Int32)]) (wc := [(hm, .inr (6, [.int (0 : Int32), .ref m1, .ref m2, .ref m3, .ref m4, .ref m5, .int (1 : Int32), .ref m7, .int (0 : Int32), .ref m9, .ref m10, .ref m11, .ref m12, .ref m13, .int rl, .ref m15, .ref m16, .ref m17]))]) hK hN [0] rfl (by decide)) gX6_many_X6_manyNow rfl rfl kd_X6_manyNow ⟨by decide, by decide⟩ (st := []) rfl (Nat.le_of_ble_eq_true rfl) dX6_many_17 ⟨by decide, by decide⟩) (fun u hu => ?_)
  refine g_goto (tgt := 28) B dX6_many_20 (by decide) ?_
  exact g_iret_w B hr rfl hlocks () (rfl) (trivial) [0] (by decide) rfl dX6_many_28

set_option maxHeartbeats 4000000 in
set_option maxRecDepth 100000 in
theorem r_many_1 (l : Launch) {D : va_G} {cI cL cZ : ClassId} (hm : Nat) (m1 : Nat) (m2 : Nat) (m3 : Nat) (m4 : Nat) (m5 : Nat) (m7 : Nat) (m9 : Nat) (m10 : Nat) (m11 : Nat) (m12 : Nat) (m13 : Nat) (m15 : Nat) (m16 : Nat) (m17 : Nat) (th : Int32) (rl : Int32)  : WM l yX6_many wsX6_many ({ frames := 2, cells := 0, slots := 0, locals := 43 } : Room) D (gTys cI cL cZ) [.ref hm, .int (1 : Int32)] [(hm, .inr (6, [.int th, .ref m1, .ref m2, .ref m3, .ref m4, .ref m5, .int (1 : Int32), .ref m7, .int (0 : Int32), .ref m9, .ref m10, .ref m11, .ref m12, .ref m13, .int rl, .ref m15, .ref m16, .ref m17]))] (fun (_ : Unit) => True) (fun (_ : Unit) => some (.int (0 : Int32))) (fun (_ : Unit) => [(hm, .inr (6, [.int (0 : Int32), .ref m1, .ref m2, .ref m3, .ref m4, .ref m5, .int (1 : Int32), .ref m7, .int (0 : Int32), .ref m9, .ref m10, .ref m11, .ref m12, .ref m13, .int rl, .ref m15, .ref m16, .ref m17]))]) := by
  refine WM.ofG cX6_many 2 (some .int) (by decide +kernel) rfl (Nat.le_of_ble_eq_true rfl) ?_
  intro p e s m below meth c A hA B hr hlocks hname hK hN
  refine g_aload_n B dX6_many_0 0 rfl ?_
  refine g_iconst (v := (0 : Int32)) B dX6_many_1 (by decide) ?_
  refine g_put (C := RX6) (T := TX6) (N := 18) (ci := 6) B hK hin_X6_many_RX6 0 rfl rfl 0 (by decide) tyX6 tyX6_ok nmX6 (List.mem_of_getElem? (i := 1) rfl) rfl rfl (ty := .int) (v := .int (0 : Int32)) (by decide +kernel) rfl rfl (Nat.le_of_ble_eq_true rfl) (w2 := [(hm, .inr (6, [.int (0 : Int32), .ref m1, .ref m2, .ref m3, .ref m4, .ref m5, .int (1 : Int32), .ref m7, .int (0 : Int32), .ref m9, .ref m10, .ref m11, .ref m12, .ref m13, .int rl, .ref m15, .ref m16, .ref m17]))]) rfl (fun _ h => h) dX6_many_2 ?_
  refine g_iload_n B dX6_many_5 1 rfl ?_
  refine g_iconst (v := (0 : Int32)) B dX6_many_6 (by decide) ?_
  refine g_bipush (v := (7 : Int32)) B dX6_many_7 (by decide) ?_
  refine g_callP (g_runS B (PM.met (r_isIn_n l (D := D) (cI := cI) (cL := cL) (cZ := cZ) 1 0 7 (by omega) (by omega) (by omega))) (gPp.pre (av := [.int (1 : Int32), .int (0 : Int32), .int (7 : Int32)]) (wc := []) hK hN [] rfl (by decide)) gX6_many_X6_isIn rfl kd_X6_isIn ⟨by decide, by decide⟩ (st := []) rfl (Nat.le_of_ble_eq_true rfl) dX6_many_9 ⟨by decide, by decide⟩) (fun u hu => ?_)
  refine g_if_eq (tgt := 23) B dX6_many_12 (by decide) (fun c2 => absurd c2 (by decide)) (fun _ => ?_)
  refine g_aload_n B dX6_many_15 0 rfl ?_
  refine g_iload_n B dX6_many_16 1 rfl ?_
  refine g_callP (g_runV (q0 := 0) (ci := 6) B hK rfl rfl (PM.met (r_manyNow_1 l (D := D) (cI := cI) (cL := cL) (cZ := cZ) hm m1 m2 m3 m4 m5 m7 m9 m10 m11 m12 m13 m15 m16 m17 (0 : Int32) (1 : Int32) rl )) (gPp.pre (av := [.ref hm, .int (1 : Int32)]) (wc := [(hm, .inr (6, [.int (0 : Int32), .ref m1, .ref m2, .ref m3, .ref m4, .ref m5, .int (1 : Int32), .ref m7, .int (0 : Int32), .ref m9, .ref m10, .ref m11, .ref m12, .ref m13, .int rl, .ref m15, .ref m16, .ref m17]))]) hK hN [0] rfl (by decide)) gX6_many_X6_manyNow rfl rfl kd_X6_manyNow ⟨by decide, by decide⟩ (st := []) rfl (Nat.le_of_ble_eq_true rfl) dX6_many_17 ⟨by decide, by decide⟩) (fun u hu => ?_)
  refine g_goto (tgt := 28) B dX6_many_20 (by decide) ?_
  exact g_iret_w B hr rfl hlocks () (rfl) (trivial) [0] (by decide) rfl dX6_many_28

set_option maxHeartbeats 4000000 in
set_option maxRecDepth 100000 in
theorem r_many_2 (l : Launch) {D : va_G} {cI cL cZ : ClassId} (hm : Nat) (m1 : Nat) (m2 : Nat) (m3 : Nat) (m4 : Nat) (m5 : Nat) (m7 : Nat) (m9 : Nat) (m10 : Nat) (m11 : Nat) (m12 : Nat) (m13 : Nat) (m15 : Nat) (m16 : Nat) (m17 : Nat) (th : Int32) (rl : Int32)  : WM l yX6_many wsX6_many ({ frames := 2, cells := 0, slots := 0, locals := 44 } : Room) D (gTys cI cL cZ) [.ref hm, .int (2 : Int32)] [(hm, .inr (6, [.int th, .ref m1, .ref m2, .ref m3, .ref m4, .ref m5, .int (1 : Int32), .ref m7, .int (0 : Int32), .ref m9, .ref m10, .ref m11, .ref m12, .ref m13, .int rl, .ref m15, .ref m16, .ref m17]))] (fun (_ : Unit) => True) (fun (_ : Unit) => some (.int (0 : Int32))) (fun (_ : Unit) => [(hm, .inr (6, [.int (0 : Int32), .ref m1, .ref m2, .ref m3, .ref m4, .ref m5, .int (1 : Int32), .ref m7, .int (0 : Int32), .ref m9, .ref m10, .ref m11, .ref m12, .ref m13, .int rl, .ref m15, .ref m16, .ref m17]))]) := by
  refine WM.ofG cX6_many 2 (some .int) (by decide +kernel) rfl (Nat.le_of_ble_eq_true rfl) ?_
  intro p e s m below meth c A hA B hr hlocks hname hK hN
  refine g_aload_n B dX6_many_0 0 rfl ?_
  refine g_iconst (v := (0 : Int32)) B dX6_many_1 (by decide) ?_
  refine g_put (C := RX6) (T := TX6) (N := 18) (ci := 6) B hK hin_X6_many_RX6 0 rfl rfl 0 (by decide) tyX6 tyX6_ok nmX6 (List.mem_of_getElem? (i := 1) rfl) rfl rfl (ty := .int) (v := .int (0 : Int32)) (by decide +kernel) rfl rfl (Nat.le_of_ble_eq_true rfl) (w2 := [(hm, .inr (6, [.int (0 : Int32), .ref m1, .ref m2, .ref m3, .ref m4, .ref m5, .int (1 : Int32), .ref m7, .int (0 : Int32), .ref m9, .ref m10, .ref m11, .ref m12, .ref m13, .int rl, .ref m15, .ref m16, .ref m17]))]) rfl (fun _ h => h) dX6_many_2 ?_
  refine g_iload_n B dX6_many_5 1 rfl ?_
  refine g_iconst (v := (0 : Int32)) B dX6_many_6 (by decide) ?_
  refine g_bipush (v := (7 : Int32)) B dX6_many_7 (by decide) ?_
  refine g_callP (g_runS B (PM.met (r_isIn_n l (D := D) (cI := cI) (cL := cL) (cZ := cZ) 2 0 7 (by omega) (by omega) (by omega))) (gPp.pre (av := [.int (2 : Int32), .int (0 : Int32), .int (7 : Int32)]) (wc := []) hK hN [] rfl (by decide)) gX6_many_X6_isIn rfl kd_X6_isIn ⟨by decide, by decide⟩ (st := []) rfl (Nat.le_of_ble_eq_true rfl) dX6_many_9 ⟨by decide, by decide⟩) (fun u hu => ?_)
  refine g_if_eq (tgt := 23) B dX6_many_12 (by decide) (fun c2 => absurd c2 (by decide)) (fun _ => ?_)
  refine g_aload_n B dX6_many_15 0 rfl ?_
  refine g_iload_n B dX6_many_16 1 rfl ?_
  refine g_callP (g_runV (q0 := 0) (ci := 6) B hK rfl rfl (PM.met (r_manyNow_2 l (D := D) (cI := cI) (cL := cL) (cZ := cZ) hm m1 m2 m3 m4 m5 m7 m9 m10 m11 m12 m13 m15 m16 m17 (0 : Int32) (1 : Int32) rl )) (gPp.pre (av := [.ref hm, .int (2 : Int32)]) (wc := [(hm, .inr (6, [.int (0 : Int32), .ref m1, .ref m2, .ref m3, .ref m4, .ref m5, .int (1 : Int32), .ref m7, .int (0 : Int32), .ref m9, .ref m10, .ref m11, .ref m12, .ref m13, .int rl, .ref m15, .ref m16, .ref m17]))]) hK hN [0] rfl (by decide)) gX6_many_X6_manyNow rfl rfl kd_X6_manyNow ⟨by decide, by decide⟩ (st := []) rfl (Nat.le_of_ble_eq_true rfl) dX6_many_17 ⟨by decide, by decide⟩) (fun u hu => ?_)
  refine g_goto (tgt := 28) B dX6_many_20 (by decide) ?_
  exact g_iret_w B hr rfl hlocks () (rfl) (trivial) [0] (by decide) rfl dX6_many_28

set_option maxHeartbeats 4000000 in
set_option maxRecDepth 100000 in
theorem r_many_3 (l : Launch) {D : va_G} {cI cL cZ : ClassId} (hm : Nat) (m1 : Nat) (m2 : Nat) (m3 : Nat) (m4 : Nat) (m5 : Nat) (m7 : Nat) (m9 : Nat) (m10 : Nat) (m11 : Nat) (m12 : Nat) (m13 : Nat) (m15 : Nat) (m16 : Nat) (m17 : Nat) (th : Int32) (rl : Int32)  : WM l yX6_many wsX6_many ({ frames := 2, cells := 0, slots := 0, locals := 43 } : Room) D (gTys cI cL cZ) [.ref hm, .int (3 : Int32)] [(hm, .inr (6, [.int th, .ref m1, .ref m2, .ref m3, .ref m4, .ref m5, .int (1 : Int32), .ref m7, .int (0 : Int32), .ref m9, .ref m10, .ref m11, .ref m12, .ref m13, .int rl, .ref m15, .ref m16, .ref m17]))] (fun (_ : Unit) => True) (fun (_ : Unit) => some (.int (0 : Int32))) (fun (_ : Unit) => [(hm, .inr (6, [.int (0 : Int32), .ref m1, .ref m2, .ref m3, .ref m4, .ref m5, .int (1 : Int32), .ref m7, .int (0 : Int32), .ref m9, .ref m10, .ref m11, .ref m12, .ref m13, .int rl, .ref m15, .ref m16, .ref m17]))]) := by
  refine WM.ofG cX6_many 2 (some .int) (by decide +kernel) rfl (Nat.le_of_ble_eq_true rfl) ?_
  intro p e s m below meth c A hA B hr hlocks hname hK hN
  refine g_aload_n B dX6_many_0 0 rfl ?_
  refine g_iconst (v := (0 : Int32)) B dX6_many_1 (by decide) ?_
  refine g_put (C := RX6) (T := TX6) (N := 18) (ci := 6) B hK hin_X6_many_RX6 0 rfl rfl 0 (by decide) tyX6 tyX6_ok nmX6 (List.mem_of_getElem? (i := 1) rfl) rfl rfl (ty := .int) (v := .int (0 : Int32)) (by decide +kernel) rfl rfl (Nat.le_of_ble_eq_true rfl) (w2 := [(hm, .inr (6, [.int (0 : Int32), .ref m1, .ref m2, .ref m3, .ref m4, .ref m5, .int (1 : Int32), .ref m7, .int (0 : Int32), .ref m9, .ref m10, .ref m11, .ref m12, .ref m13, .int rl, .ref m15, .ref m16, .ref m17]))]) rfl (fun _ h => h) dX6_many_2 ?_
  refine g_iload_n B dX6_many_5 1 rfl ?_
  refine g_iconst (v := (0 : Int32)) B dX6_many_6 (by decide) ?_
  refine g_bipush (v := (7 : Int32)) B dX6_many_7 (by decide) ?_
  refine g_callP (g_runS B (PM.met (r_isIn_n l (D := D) (cI := cI) (cL := cL) (cZ := cZ) 3 0 7 (by omega) (by omega) (by omega))) (gPp.pre (av := [.int (3 : Int32), .int (0 : Int32), .int (7 : Int32)]) (wc := []) hK hN [] rfl (by decide)) gX6_many_X6_isIn rfl kd_X6_isIn ⟨by decide, by decide⟩ (st := []) rfl (Nat.le_of_ble_eq_true rfl) dX6_many_9 ⟨by decide, by decide⟩) (fun u hu => ?_)
  refine g_if_eq (tgt := 23) B dX6_many_12 (by decide) (fun c2 => absurd c2 (by decide)) (fun _ => ?_)
  refine g_aload_n B dX6_many_15 0 rfl ?_
  refine g_iload_n B dX6_many_16 1 rfl ?_
  refine g_callP (g_runV (q0 := 0) (ci := 6) B hK rfl rfl (PM.met (r_manyNow_3 l (D := D) (cI := cI) (cL := cL) (cZ := cZ) hm m1 m2 m3 m4 m5 m7 m9 m10 m11 m12 m13 m15 m16 m17 (0 : Int32) (1 : Int32) rl )) (gPp.pre (av := [.ref hm, .int (3 : Int32)]) (wc := [(hm, .inr (6, [.int (0 : Int32), .ref m1, .ref m2, .ref m3, .ref m4, .ref m5, .int (1 : Int32), .ref m7, .int (0 : Int32), .ref m9, .ref m10, .ref m11, .ref m12, .ref m13, .int rl, .ref m15, .ref m16, .ref m17]))]) hK hN [0] rfl (by decide)) gX6_many_X6_manyNow rfl rfl kd_X6_manyNow ⟨by decide, by decide⟩ (st := []) rfl (Nat.le_of_ble_eq_true rfl) dX6_many_17 ⟨by decide, by decide⟩) (fun u hu => ?_)
  refine g_goto (tgt := 28) B dX6_many_20 (by decide) ?_
  exact g_iret_w B hr rfl hlocks () (rfl) (trivial) [0] (by decide) rfl dX6_many_28

set_option maxHeartbeats 4000000 in
set_option maxRecDepth 100000 in
theorem r_many_4 (l : Launch) {D : va_G} {cI cL cZ : ClassId} (hm : Nat) (m1 : Nat) (m2 : Nat) (m3 : Nat) (m4 : Nat) (m5 : Nat) (m7 : Nat) (m9 : Nat) (m10 : Nat) (m11 : Nat) (m12 : Nat) (m13 : Nat) (m15 : Nat) (m16 : Nat) (m17 : Nat) (th : Int32) (rl : Int32)  : WM l yX6_many wsX6_many ({ frames := 3, cells := 0, slots := 0, locals := 66 } : Room) D (gTys cI cL cZ) [.ref hm, .int (4 : Int32)] [(hm, .inr (6, [.int th, .ref m1, .ref m2, .ref m3, .ref m4, .ref m5, .int (1 : Int32), .ref m7, .int (0 : Int32), .ref m9, .ref m10, .ref m11, .ref m12, .ref m13, .int rl, .ref m15, .ref m16, .ref m17]))] (fun (_ : Unit) => True) (fun (_ : Unit) => some (.int (0 : Int32))) (fun (_ : Unit) => [(hm, .inr (6, [.int (0 : Int32), .ref m1, .ref m2, .ref m3, .ref m4, .ref m5, .int (1 : Int32), .ref m7, .int (0 : Int32), .ref m9, .ref m10, .ref m11, .ref m12, .ref m13, .int rl, .ref m15, .ref m16, .ref m17]))]) := by
  refine WM.ofG cX6_many 2 (some .int) (by decide +kernel) rfl (Nat.le_of_ble_eq_true rfl) ?_
  intro p e s m below meth c A hA B hr hlocks hname hK hN
  refine g_aload_n B dX6_many_0 0 rfl ?_
  refine g_iconst (v := (0 : Int32)) B dX6_many_1 (by decide) ?_
  refine g_put (C := RX6) (T := TX6) (N := 18) (ci := 6) B hK hin_X6_many_RX6 0 rfl rfl 0 (by decide) tyX6 tyX6_ok nmX6 (List.mem_of_getElem? (i := 1) rfl) rfl rfl (ty := .int) (v := .int (0 : Int32)) (by decide +kernel) rfl rfl (Nat.le_of_ble_eq_true rfl) (w2 := [(hm, .inr (6, [.int (0 : Int32), .ref m1, .ref m2, .ref m3, .ref m4, .ref m5, .int (1 : Int32), .ref m7, .int (0 : Int32), .ref m9, .ref m10, .ref m11, .ref m12, .ref m13, .int rl, .ref m15, .ref m16, .ref m17]))]) rfl (fun _ h => h) dX6_many_2 ?_
  refine g_iload_n B dX6_many_5 1 rfl ?_
  refine g_iconst (v := (0 : Int32)) B dX6_many_6 (by decide) ?_
  refine g_bipush (v := (7 : Int32)) B dX6_many_7 (by decide) ?_
  refine g_callP (g_runS B (PM.met (r_isIn_n l (D := D) (cI := cI) (cL := cL) (cZ := cZ) 4 0 7 (by omega) (by omega) (by omega))) (gPp.pre (av := [.int (4 : Int32), .int (0 : Int32), .int (7 : Int32)]) (wc := []) hK hN [] rfl (by decide)) gX6_many_X6_isIn rfl kd_X6_isIn ⟨by decide, by decide⟩ (st := []) rfl (Nat.le_of_ble_eq_true rfl) dX6_many_9 ⟨by decide, by decide⟩) (fun u hu => ?_)
  refine g_if_eq (tgt := 23) B dX6_many_12 (by decide) (fun c2 => absurd c2 (by decide)) (fun _ => ?_)
  refine g_aload_n B dX6_many_15 0 rfl ?_
  refine g_iload_n B dX6_many_16 1 rfl ?_
  refine g_callP (g_runV (q0 := 0) (ci := 6) B hK rfl rfl (PM.met (r_manyNow_4 l (D := D) (cI := cI) (cL := cL) (cZ := cZ) hm m1 m2 m3 m4 m5 m7 m9 m10 m11 m12 m13 m15 m16 m17 (0 : Int32) (1 : Int32) rl )) (gPp.pre (av := [.ref hm, .int (4 : Int32)]) (wc := [(hm, .inr (6, [.int (0 : Int32), .ref m1, .ref m2, .ref m3, .ref m4, .ref m5, .int (1 : Int32), .ref m7, .int (0 : Int32), .ref m9, .ref m10, .ref m11, .ref m12, .ref m13, .int rl, .ref m15, .ref m16, .ref m17]))]) hK hN [0] rfl (by decide)) gX6_many_X6_manyNow rfl rfl kd_X6_manyNow ⟨by decide, by decide⟩ (st := []) rfl (Nat.le_of_ble_eq_true rfl) dX6_many_17 ⟨by decide, by decide⟩) (fun u hu => ?_)
  refine g_goto (tgt := 28) B dX6_many_20 (by decide) ?_
  exact g_iret_w B hr rfl hlocks () (rfl) (trivial) [0] (by decide) rfl dX6_many_28

set_option maxHeartbeats 4000000 in
set_option maxRecDepth 100000 in
theorem r_many_5 (l : Launch) {D : va_G} {cI cL cZ : ClassId} (hm : Nat) (m1 : Nat) (m2 : Nat) (m3 : Nat) (m4 : Nat) (m5 : Nat) (m7 : Nat) (m9 : Nat) (m10 : Nat) (m11 : Nat) (m12 : Nat) (m13 : Nat) (m15 : Nat) (m16 : Nat) (m17 : Nat) (th : Int32)  : WM l yX6_many wsX6_many ({ frames := 1, cells := 0, slots := 0, locals := 22 } : Room) D (gTys cI cL cZ) [.ref hm, .int (5 : Int32)] [(hm, .inr (6, [.int th, .ref m1, .ref m2, .ref m3, .ref m4, .ref m5, .int (1 : Int32), .ref m7, .int (0 : Int32), .ref m9, .ref m10, .ref m11, .ref m12, .ref m13, .int (0 : Int32), .ref m15, .ref m16, .ref m17]))] (fun (_ : Unit) => True) (fun (_ : Unit) => some (.int (0 : Int32))) (fun (_ : Unit) => [(hm, .inr (6, [.int (0 : Int32), .ref m1, .ref m2, .ref m3, .ref m4, .ref m5, .int (1 : Int32), .ref m7, .int (0 : Int32), .ref m9, .ref m10, .ref m11, .ref m12, .ref m13, .int (0 : Int32), .ref m15, .ref m16, .ref m17]))]) := by
  refine WM.ofG cX6_many 2 (some .int) (by decide +kernel) rfl (Nat.le_of_ble_eq_true rfl) ?_
  intro p e s m below meth c A hA B hr hlocks hname hK hN
  refine g_aload_n B dX6_many_0 0 rfl ?_
  refine g_iconst (v := (0 : Int32)) B dX6_many_1 (by decide) ?_
  refine g_put (C := RX6) (T := TX6) (N := 18) (ci := 6) B hK hin_X6_many_RX6 0 rfl rfl 0 (by decide) tyX6 tyX6_ok nmX6 (List.mem_of_getElem? (i := 1) rfl) rfl rfl (ty := .int) (v := .int (0 : Int32)) (by decide +kernel) rfl rfl (Nat.le_of_ble_eq_true rfl) (w2 := [(hm, .inr (6, [.int (0 : Int32), .ref m1, .ref m2, .ref m3, .ref m4, .ref m5, .int (1 : Int32), .ref m7, .int (0 : Int32), .ref m9, .ref m10, .ref m11, .ref m12, .ref m13, .int (0 : Int32), .ref m15, .ref m16, .ref m17]))]) rfl (fun _ h => h) dX6_many_2 ?_
  refine g_iload_n B dX6_many_5 1 rfl ?_
  refine g_iconst (v := (0 : Int32)) B dX6_many_6 (by decide) ?_
  refine g_bipush (v := (7 : Int32)) B dX6_many_7 (by decide) ?_
  refine g_callP (g_runS B (PM.met (r_isIn_n l (D := D) (cI := cI) (cL := cL) (cZ := cZ) 5 0 7 (by omega) (by omega) (by omega))) (gPp.pre (av := [.int (5 : Int32), .int (0 : Int32), .int (7 : Int32)]) (wc := []) hK hN [] rfl (by decide)) gX6_many_X6_isIn rfl kd_X6_isIn ⟨by decide, by decide⟩ (st := []) rfl (Nat.le_of_ble_eq_true rfl) dX6_many_9 ⟨by decide, by decide⟩) (fun u hu => ?_)
  refine g_if_eq (tgt := 23) B dX6_many_12 (by decide) (fun c2 => absurd c2 (by decide)) (fun _ => ?_)
  refine g_aload_n B dX6_many_15 0 rfl ?_
  refine g_iload_n B dX6_many_16 1 rfl ?_
  refine g_callP (g_runV (q0 := 0) (ci := 6) B hK rfl rfl (PM.met (r_manyNow_5 l (D := D) (cI := cI) (cL := cL) (cZ := cZ) hm m1 m2 m3 m4 m5 m7 m9 m10 m11 m12 m13 m15 m16 m17 (0 : Int32) (1 : Int32) )) (gPp.pre (av := [.ref hm, .int (5 : Int32)]) (wc := [(hm, .inr (6, [.int (0 : Int32), .ref m1, .ref m2, .ref m3, .ref m4, .ref m5, .int (1 : Int32), .ref m7, .int (0 : Int32), .ref m9, .ref m10, .ref m11, .ref m12, .ref m13, .int (0 : Int32), .ref m15, .ref m16, .ref m17]))]) hK hN [0] rfl (by decide)) gX6_many_X6_manyNow rfl rfl kd_X6_manyNow ⟨by decide, by decide⟩ (st := []) rfl (Nat.le_of_ble_eq_true rfl) dX6_many_17 ⟨by decide, by decide⟩) (fun u hu => ?_)
  refine g_goto (tgt := 28) B dX6_many_20 (by decide) ?_
  exact g_iret_w B hr rfl hlocks () (rfl) (trivial) [0] (by decide) rfl dX6_many_28

set_option maxHeartbeats 4000000 in
set_option maxRecDepth 100000 in
theorem r_many_6 (l : Launch) {D : va_G} {cI cL cZ : ClassId} (hm : Nat) (m1 : Nat) (m2 : Nat) (m3 : Nat) (m4 : Nat) (m5 : Nat) (m7 : Nat) (m9 : Nat) (m10 : Nat) (m11 : Nat) (m12 : Nat) (m13 : Nat) (m15 : Nat) (m16 : Nat) (m17 : Nat) (th : Int32) (rl : Int32)  : WM l yX6_many wsX6_many ({ frames := 1, cells := 0, slots := 0, locals := 22 } : Room) D (gTys cI cL cZ) [.ref hm, .int (6 : Int32)] [(hm, .inr (6, [.int th, .ref m1, .ref m2, .ref m3, .ref m4, .ref m5, .int (1 : Int32), .ref m7, .int (0 : Int32), .ref m9, .ref m10, .ref m11, .ref m12, .ref m13, .int rl, .ref m15, .ref m16, .ref m17]))] (fun (_ : Unit) => True) (fun (_ : Unit) => some (.int (1 : Int32))) (fun (_ : Unit) => [(hm, .inr (6, [.int (0 : Int32), .ref m1, .ref m2, .ref m3, .ref m4, .ref m5, .int (1 : Int32), .ref m7, .int (0 : Int32), .ref m9, .ref m10, .ref m11, .ref m12, .ref m13, .int rl, .ref m15, .ref m16, .ref m17]))]) := by
  refine WM.ofG cX6_many 2 (some .int) (by decide +kernel) rfl (Nat.le_of_ble_eq_true rfl) ?_
  intro p e s m below meth c A hA B hr hlocks hname hK hN
  refine g_aload_n B dX6_many_0 0 rfl ?_
  refine g_iconst (v := (0 : Int32)) B dX6_many_1 (by decide) ?_
  refine g_put (C := RX6) (T := TX6) (N := 18) (ci := 6) B hK hin_X6_many_RX6 0 rfl rfl 0 (by decide) tyX6 tyX6_ok nmX6 (List.mem_of_getElem? (i := 1) rfl) rfl rfl (ty := .int) (v := .int (0 : Int32)) (by decide +kernel) rfl rfl (Nat.le_of_ble_eq_true rfl) (w2 := [(hm, .inr (6, [.int (0 : Int32), .ref m1, .ref m2, .ref m3, .ref m4, .ref m5, .int (1 : Int32), .ref m7, .int (0 : Int32), .ref m9, .ref m10, .ref m11, .ref m12, .ref m13, .int rl, .ref m15, .ref m16, .ref m17]))]) rfl (fun _ h => h) dX6_many_2 ?_
  refine g_iload_n B dX6_many_5 1 rfl ?_
  refine g_iconst (v := (0 : Int32)) B dX6_many_6 (by decide) ?_
  refine g_bipush (v := (7 : Int32)) B dX6_many_7 (by decide) ?_
  refine g_callP (g_runS B (PM.met (r_isIn_n l (D := D) (cI := cI) (cL := cL) (cZ := cZ) 6 0 7 (by omega) (by omega) (by omega))) (gPp.pre (av := [.int (6 : Int32), .int (0 : Int32), .int (7 : Int32)]) (wc := []) hK hN [] rfl (by decide)) gX6_many_X6_isIn rfl kd_X6_isIn ⟨by decide, by decide⟩ (st := []) rfl (Nat.le_of_ble_eq_true rfl) dX6_many_9 ⟨by decide, by decide⟩) (fun u hu => ?_)
  refine g_if_eq (tgt := 23) B dX6_many_12 (by decide) (fun c2 => absurd c2 (by decide)) (fun _ => ?_)
  refine g_aload_n B dX6_many_15 0 rfl ?_
  refine g_iload_n B dX6_many_16 1 rfl ?_
  refine g_callP (g_runV (q0 := 0) (ci := 6) B hK rfl rfl (PM.met (r_manyNow_6 l (D := D) (cI := cI) (cL := cL) (cZ := cZ) hm m1 m2 m3 m4 m5 m7 m9 m10 m11 m12 m13 m15 m16 m17 (0 : Int32) (1 : Int32) rl )) (gPp.pre (av := [.ref hm, .int (6 : Int32)]) (wc := [(hm, .inr (6, [.int (0 : Int32), .ref m1, .ref m2, .ref m3, .ref m4, .ref m5, .int (1 : Int32), .ref m7, .int (0 : Int32), .ref m9, .ref m10, .ref m11, .ref m12, .ref m13, .int rl, .ref m15, .ref m16, .ref m17]))]) hK hN [0] rfl (by decide)) gX6_many_X6_manyNow rfl rfl kd_X6_manyNow ⟨by decide, by decide⟩ (st := []) rfl (Nat.le_of_ble_eq_true rfl) dX6_many_17 ⟨by decide, by decide⟩) (fun u hu => ?_)
  refine g_goto (tgt := 28) B dX6_many_20 (by decide) ?_
  exact g_iret_w B hr rfl hlocks () (rfl) (trivial) [0] (by decide) rfl dX6_many_28

set_option maxHeartbeats 4000000 in
set_option maxRecDepth 100000 in
theorem r_many_7 (l : Launch) {D : va_G} {cI cL cZ : ClassId} (hm : Nat) (m1 : Nat) (m2 : Nat) (m3 : Nat) (m4 : Nat) (m5 : Nat) (m7 : Nat) (m9 : Nat) (m10 : Nat) (m11 : Nat) (m12 : Nat) (m13 : Nat) (m15 : Nat) (m16 : Nat) (m17 : Nat) (th : Int32) (rl : Int32)  : WM l yX6_many wsX6_many ({ frames := 3, cells := 0, slots := 0, locals := 66 } : Room) D (gTys cI cL cZ) [.ref hm, .int (7 : Int32)] [(hm, .inr (6, [.int th, .ref m1, .ref m2, .ref m3, .ref m4, .ref m5, .int (1 : Int32), .ref m7, .int (0 : Int32), .ref m9, .ref m10, .ref m11, .ref m12, .ref m13, .int rl, .ref m15, .ref m16, .ref m17])), (m4, .inl (cI, 24, .inl (fun _ => (-1 : Int32))))] (fun (_ : Unit) => True) (fun (_ : Unit) => some (.int (1 : Int32))) (fun (_ : Unit) => [(hm, .inr (6, [.int (0 : Int32), .ref m1, .ref m2, .ref m3, .ref m4, .ref m5, .int (1 : Int32), .ref m7, .int (0 : Int32), .ref m9, .ref m10, .ref m11, .ref m12, .ref m13, .int rl, .ref m15, .ref m16, .ref m17]))]) := by
  refine WM.ofG cX6_many 2 (some .int) (by decide +kernel) rfl (Nat.le_of_ble_eq_true rfl) ?_
  intro p e s m below meth c A hA B hr hlocks hname hK hN
  refine g_aload_n B dX6_many_0 0 rfl ?_
  refine g_iconst (v := (0 : Int32)) B dX6_many_1 (by decide) ?_
  refine g_put (C := RX6) (T := TX6) (N := 18) (ci := 6) B hK hin_X6_many_RX6 0 rfl rfl 0 (by decide) tyX6 tyX6_ok nmX6 (List.mem_of_getElem? (i := 1) rfl) rfl rfl (ty := .int) (v := .int (0 : Int32)) (by decide +kernel) rfl rfl (Nat.le_of_ble_eq_true rfl) (w2 := [(hm, .inr (6, [.int (0 : Int32), .ref m1, .ref m2, .ref m3, .ref m4, .ref m5, .int (1 : Int32), .ref m7, .int (0 : Int32), .ref m9, .ref m10, .ref m11, .ref m12, .ref m13, .int rl, .ref m15, .ref m16, .ref m17])), (m4, .inl (cI, 24, .inl (fun _ => (-1 : Int32))))]) rfl (fun _ h => h) dX6_many_2 ?_
  refine g_iload_n B dX6_many_5 1 rfl ?_
  refine g_iconst (v := (0 : Int32)) B dX6_many_6 (by decide) ?_
  refine g_bipush (v := (7 : Int32)) B dX6_many_7 (by decide) ?_
  refine g_callP (g_runS B (PM.met (r_isIn_n l (D := D) (cI := cI) (cL := cL) (cZ := cZ) 7 0 7 (by omega) (by omega) (by omega))) (gPp.pre (av := [.int (7 : Int32), .int (0 : Int32), .int (7 : Int32)]) (wc := []) hK hN [] rfl (by decide)) gX6_many_X6_isIn rfl kd_X6_isIn ⟨by decide, by decide⟩ (st := []) rfl (Nat.le_of_ble_eq_true rfl) dX6_many_9 ⟨by decide, by decide⟩) (fun u hu => ?_)
  refine g_if_eq (tgt := 23) B dX6_many_12 (by decide) (fun c2 => absurd c2 (by decide)) (fun _ => ?_)
  refine g_aload_n B dX6_many_15 0 rfl ?_
  refine g_iload_n B dX6_many_16 1 rfl ?_
  refine g_callP (g_runV (q0 := 0) (ci := 6) B hK rfl rfl (PM.met (r_manyNow_7 l (D := D) (cI := cI) (cL := cL) (cZ := cZ) hm m1 m2 m3 m4 m5 m7 m9 m10 m11 m12 m13 m15 m16 m17 (0 : Int32) (1 : Int32) rl )) (gPp.pre (av := [.ref hm, .int (7 : Int32)]) (wc := [(hm, .inr (6, [.int (0 : Int32), .ref m1, .ref m2, .ref m3, .ref m4, .ref m5, .int (1 : Int32), .ref m7, .int (0 : Int32), .ref m9, .ref m10, .ref m11, .ref m12, .ref m13, .int rl, .ref m15, .ref m16, .ref m17])), (m4, .inl (cI, 24, .inl (fun _ => (-1 : Int32))))]) hK hN [0, 1] rfl (by decide)) gX6_many_X6_manyNow rfl rfl kd_X6_manyNow ⟨by decide, by decide⟩ (st := []) rfl (Nat.le_of_ble_eq_true rfl) dX6_many_17 ⟨by decide, by decide⟩) (fun u hu => ?_)
  refine g_goto (tgt := 28) B dX6_many_20 (by decide) ?_
  exact g_iret_w B hr rfl hlocks () (rfl) (trivial) [0] (by decide) rfl dX6_many_28

set_option maxHeartbeats 4000000 in
set_option maxRecDepth 100000 in
theorem r_meanEnergy_v (l : Launch) {D : va_G} {cI cL cZ : ClassId} (hm : Nat) (m1 : Nat) (m2 : Nat) (m3 : Nat) (m4 : Nat) (m5 : Nat) (m7 : Nat) (m9 : Nat) (m10 : Nat) (m11 : Nat) (m12 : Nat) (m13 : Nat) (m15 : Nat) (m16 : Nat) (m17 : Nat) (th : Int32) (dr : Int32) (rl : Int32)  : WM l yX6_meanEnergy wsX6_meanEnergy ({ frames := 1, cells := 0, slots := 0, locals := 22 } : Room) D (gTys cI cL cZ) [.ref hm] [(hm, .inr (6, [.int th, .ref m1, .ref m2, .ref m3, .ref m4, .ref m5, .int dr, .ref m7, .int (0 : Int32), .ref m9, .ref m10, .ref m11, .ref m12, .ref m13, .int rl, .ref m15, .ref m16, .ref m17]))] (fun (_ : Unit) => True) (fun (_ : Unit) => some (.double FP.dconst0)) (fun (_ : Unit) => [(hm, .inr (6, [.int (0 : Int32), .ref m1, .ref m2, .ref m3, .ref m4, .ref m5, .int dr, .ref m7, .int (0 : Int32), .ref m9, .ref m10, .ref m11, .ref m12, .ref m13, .int rl, .ref m15, .ref m16, .ref m17]))]) := by
  refine WM.ofG cX6_meanEnergy 3 (some .double) (by decide +kernel) rfl (Nat.le_of_ble_eq_true rfl) ?_
  intro p e s m below meth c A hA B hr hlocks hname hK hN
  refine g_aload_n B dX6_meanEnergy_0 0 rfl ?_
  refine g_iconst (v := (0 : Int32)) B dX6_meanEnergy_1 (by decide) ?_
  refine g_put (C := RX6) (T := TX6) (N := 18) (ci := 6) B hK hin_X6_meanEnergy_RX6 0 rfl rfl 0 (by decide) tyX6 tyX6_ok nmX6 (List.mem_of_getElem? (i := 1) rfl) rfl rfl (ty := .int) (v := .int (0 : Int32)) (by decide +kernel) rfl rfl (Nat.le_of_ble_eq_true rfl) (w2 := [(hm, .inr (6, [.int (0 : Int32), .ref m1, .ref m2, .ref m3, .ref m4, .ref m5, .int dr, .ref m7, .int (0 : Int32), .ref m9, .ref m10, .ref m11, .ref m12, .ref m13, .int rl, .ref m15, .ref m16, .ref m17]))]) rfl (fun _ h => h) dX6_meanEnergy_2 ?_
  refine g_iconst (v := (0 : Int32)) B dX6_meanEnergy_5 (by decide) ?_
  refine g_istore_n (lv' := [(0, .ref hm), (1, .int (0 : Int32))]) B dX6_meanEnergy_6 rfl (by decide) [1, 0] rfl ?_
  refine g_iconst (v := (0 : Int32)) B dX6_meanEnergy_7 (by decide) ?_
  refine g_istore_n (lv' := [(0, .ref hm), (1, .int (0 : Int32)), (2, .int (0 : Int32))]) B dX6_meanEnergy_8 rfl (by decide) [1, 2, 0] rfl ?_
  refine g_iload_n B dX6_meanEnergy_9 2 rfl ?_
  refine g_aload_n B dX6_meanEnergy_10 0 rfl ?_
  refine g_get (C := RX6) (T := TX6) (N := 18) (ci := 6) B hK hin_X6_meanEnergy_RX6 0 rfl rfl 8 (by decide) (List.mem_of_getElem? (i := 2) rfl) rfl (v := .int (0 : Int32)) rfl dX6_meanEnergy_11 ?_
  refine g_icmp_ge (tgt := 31) B dX6_meanEnergy_14 (by decide) (fun _ => ?_) (fun c1 => absurd (by decide) c1)
  refine g_aload_n B dX6_meanEnergy_31 0 rfl ?_
  refine g_callP (g_runV (q0 := 0) (ci := 6) B hK rfl rfl (PM.met (r_kept_0 l (D := D) (cI := cI) (cL := cL) (cZ := cZ) hm m1 m2 m3 m4 m5 m7 m9 m10 m11 m12 m13 m15 m16 m17 (0 : Int32) dr rl )) (gPp.pre (av := [.ref hm]) (wc := [(hm, .inr (6, [.int (0 : Int32), .ref m1, .ref m2, .ref m3, .ref m4, .ref m5, .int dr, .ref m7, .int (0 : Int32), .ref m9, .ref m10, .ref m11, .ref m12, .ref m13, .int rl, .ref m15, .ref m16, .ref m17]))]) hK hN [0] rfl (by decide)) gX6_meanEnergy_X6_kept rfl rfl kd_X6_kept ⟨by decide, by decide⟩ (st := []) rfl (Nat.le_of_ble_eq_true rfl) dX6_meanEnergy_32 ⟨by decide, by decide⟩) (fun u hu => ?_)
  refine g_if_ne (tgt := 42) B dX6_meanEnergy_35 (by decide) (fun c3 => absurd (by decide) c3) (fun _ => ?_)
  refine g_dconst0 B dX6_meanEnergy_38 ?_
  refine g_goto (tgt := 50) B dX6_meanEnergy_39 (by decide) ?_
  exact g_dret_w B hr hlocks () (rfl) (trivial) [0] (by decide) rfl dX6_meanEnergy_50

set_option maxHeartbeats 4000000 in
set_option maxRecDepth 100000 in
theorem r_shrink_x0 (l : Launch) {D : va_G} {cI cL cZ : ClassId} (hm : Nat) (m1 : Nat) (m2 : Nat) (m3 : Nat) (m4 : Nat) (m5 : Nat) (m7 : Nat) (m9 : Nat) (m10 : Nat) (m11 : Nat) (m12 : Nat) (m13 : Nat) (m15 : Nat) (m16 : Nat) (m17 : Nat) (th : Int32) (dr : Int32) (rl : Int32) (a1 : Int32) (h1 : inR a1 0 9999 = false) : WM l yX6_shrink wsX6_shrink ({ frames := 2, cells := 0, slots := 0, locals := 42 } : Room) D (gTys cI cL cZ) [.ref hm, .int a1] [(hm, .inr (6, [.int th, .ref m1, .ref m2, .ref m3, .ref m4, .ref m5, .int dr, .ref m7, .int (0 : Int32), .ref m9, .ref m10, .ref m11, .ref m12, .ref m13, .int rl, .ref m15, .ref m16, .ref m17]))] (fun (_ : Unit) => True) (fun (_ : Unit) => some (.int (0 : Int32))) (fun (_ : Unit) => [(hm, .inr (6, [.int (1 : Int32), .ref m1, .ref m2, .ref m3, .ref m4, .ref m5, .int dr, .ref m7, .int (0 : Int32), .ref m9, .ref m10, .ref m11, .ref m12, .ref m13, .int rl, .ref m15, .ref m16, .ref m17]))]) := by
  refine WM.ofG cX6_shrink 2 (some .int) (by decide +kernel) rfl (Nat.le_of_ble_eq_true rfl) ?_
  intro p e s m below meth c A hA B hr hlocks hname hK hN
  refine g_aload_n B dX6_shrink_0 0 rfl ?_
  refine g_iconst (v := (0 : Int32)) B dX6_shrink_1 (by decide) ?_
  refine g_put (C := RX6) (T := TX6) (N := 18) (ci := 6) B hK hin_X6_shrink_RX6 0 rfl rfl 0 (by decide) tyX6 tyX6_ok nmX6 (List.mem_of_getElem? (i := 1) rfl) rfl rfl (ty := .int) (v := .int (0 : Int32)) (by decide +kernel) rfl rfl (Nat.le_of_ble_eq_true rfl) (w2 := [(hm, .inr (6, [.int (0 : Int32), .ref m1, .ref m2, .ref m3, .ref m4, .ref m5, .int dr, .ref m7, .int (0 : Int32), .ref m9, .ref m10, .ref m11, .ref m12, .ref m13, .int rl, .ref m15, .ref m16, .ref m17]))]) rfl (fun _ h => h) dX6_shrink_2 ?_
  refine g_iload_n B dX6_shrink_5 1 rfl ?_
  refine g_callP (g_runS B (PM.met (r_isCase_f l (D := D) (cI := cI) (cL := cL) (cZ := cZ) a1 (by first | assumption | exact hy (by assumption) | exact hz (by assumption)))) (gPp.pre (av := [.int a1]) (wc := []) hK hN [] rfl (by decide)) gX6_shrink_X6_isCase rfl kd_X6_isCase ⟨by decide, by decide⟩ (st := []) rfl (Nat.le_of_ble_eq_true rfl) dX6_shrink_6 ⟨by decide, by decide⟩) (fun u hu => ?_)
  refine g_if_eq (tgt := 30) B dX6_shrink_9 (by decide) (fun _ => ?_) (fun c2 => absurd (by decide) c2)
  refine g_aload_n B dX6_shrink_30 0 rfl ?_
  refine g_iconst (v := (1 : Int32)) B dX6_shrink_31 (by decide) ?_
  refine g_callW (w2 := (fun (_ : Unit) => [(hm, .inr (6, [.int (1 : Int32), .ref m1, .ref m2, .ref m3, .ref m4, .ref m5, .int dr, .ref m7, .int (0 : Int32), .ref m9, .ref m10, .ref m11, .ref m12, .ref m13, .int rl, .ref m15, .ref m16, .ref m17]))])) (g_runV (q0 := 0) (ci := 6) B hK rfl rfl (r_no l (D := D) (cI := cI) (cL := cL) (cZ := cZ) hm m1 m2 m3 m4 m5 m7 m9 m10 m11 m12 m13 m15 m16 m17 (0 : Int32) dr (0 : Int32) rl (1 : Int32) ) (gPw.pre (av := [.ref hm, .int (1 : Int32)]) (wc := [(hm, .inr (6, [.int (0 : Int32), .ref m1, .ref m2, .ref m3, .ref m4, .ref m5, .int dr, .ref m7, .int (0 : Int32), .ref m9, .ref m10, .ref m11, .ref m12, .ref m13, .int rl, .ref m15, .ref m16, .ref m17]))]) hK hN [0] rfl (by decide)) gX6_shrink_X6_no rfl rfl kd_X6_no ⟨by decide, by decide⟩ (st := []) rfl (Nat.le_of_ble_eq_true rfl) dX6_shrink_32 ⟨by decide, by decide⟩) hA (fun _ h => h) [0] [] (wr := []) rfl rfl (by decide) (by decide) [0] (by decide) (fun _ => rfl) (fun u hu => ?_)
  exact g_iret_w B hr rfl hlocks () (rfl) (trivial) [0] (by decide) rfl dX6_shrink_35

set_option maxHeartbeats 4000000 in
set_option maxRecDepth 100000 in
theorem r_shrink_v (l : Launch) {D : va_G} {cI cL cZ : ClassId} (hm : Nat) (m1 : Nat) (m2 : Nat) (m3 : Nat) (m4 : Nat) (m5 : Nat) (m7 : Nat) (m9 : Nat) (m10 : Nat) (m11 : Nat) (m12 : Nat) (m13 : Nat) (m15 : Nat) (m16 : Nat) (m17 : Nat) (th : Int32) (dr : Int32) (rl : Int32) (a1 : Nat) (h1 : a1 < 10000) : WM l yX6_shrink wsX6_shrink ({ frames := 5, cells := 2, slots := 33, locals := 112 } : Room) D (gTys cI cL cZ) [.ref hm, .int (nI a1)] [(hm, .inr (6, [.int th, .ref m1, .ref m2, .ref m3, .ref m4, .ref m5, .int dr, .ref m7, .int (0 : Int32), .ref m9, .ref m10, .ref m11, .ref m12, .ref m13, .int rl, .ref m15, .ref m16, .ref m17])), (m1, .inl (cI, 12, .inl (fun _ => (0 : Int32)))), (m2, .inl (cI, 12, .inl (fun _ => (0 : Int32)))), (m3, .inl (cI, 12, .inl (fun _ => (0 : Int32)))), (m4, .inl (cI, 24, .inl (fun _ => (-1 : Int32)))), (m5, .inl (cZ, 12, .inl (fun _ => (0 : Int32))))] (fun (_ : Unit) => True) (fun (_ : Unit) => some (.int (0 : Int32))) (fun (_ : Unit) => [(hm, .inr (6, [.int (1 : Int32), .ref m1, .ref m2, .ref m3, .ref m4, .ref m5, .int dr, .ref m7, .int (0 : Int32), .ref m9, .ref m10, .ref m11, .ref m12, .ref m13, .int rl, .ref m15, .ref m16, .ref m17]))]) := by
  refine WM.ofG cX6_shrink 2 (some .int) (by decide +kernel) rfl (Nat.le_of_ble_eq_true rfl) ?_
  intro p e s m below meth c A hA B hr hlocks hname hK hN
  refine g_aload_n B dX6_shrink_0 0 rfl ?_
  refine g_iconst (v := (0 : Int32)) B dX6_shrink_1 (by decide) ?_
  refine g_put (C := RX6) (T := TX6) (N := 18) (ci := 6) B hK hin_X6_shrink_RX6 0 rfl rfl 0 (by decide) tyX6 tyX6_ok nmX6 (List.mem_of_getElem? (i := 1) rfl) rfl rfl (ty := .int) (v := .int (0 : Int32)) (by decide +kernel) rfl rfl (Nat.le_of_ble_eq_true rfl) (w2 := [(hm, .inr (6, [.int (0 : Int32), .ref m1, .ref m2, .ref m3, .ref m4, .ref m5, .int dr, .ref m7, .int (0 : Int32), .ref m9, .ref m10, .ref m11, .ref m12, .ref m13, .int rl, .ref m15, .ref m16, .ref m17])), (m1, .inl (cI, 12, .inl (fun _ => (0 : Int32)))), (m2, .inl (cI, 12, .inl (fun _ => (0 : Int32)))), (m3, .inl (cI, 12, .inl (fun _ => (0 : Int32)))), (m4, .inl (cI, 24, .inl (fun _ => (-1 : Int32)))), (m5, .inl (cZ, 12, .inl (fun _ => (0 : Int32))))]) rfl (fun _ h => h) dX6_shrink_2 ?_
  refine g_iload_n B dX6_shrink_5 1 rfl ?_
  refine g_callP (g_runS B (PM.met (r_isCase_n l (D := D) (cI := cI) (cL := cL) (cZ := cZ) a1 (by omega))) (gPp.pre (av := [.int (nI a1)]) (wc := []) hK hN [] rfl (by decide)) gX6_shrink_X6_isCase rfl kd_X6_isCase ⟨by decide, by decide⟩ (st := []) rfl (Nat.le_of_ble_eq_true rfl) dX6_shrink_6 ⟨by decide, by decide⟩) (fun u hu => ?_)
  refine g_if_eq (tgt := 30) B dX6_shrink_9 (by decide) (fun c2 => absurd c2 (by decide)) (fun _ => ?_)
  refine g_aload_n B dX6_shrink_12 0 rfl ?_
  refine g_iload_n B dX6_shrink_13 1 rfl ?_
  refine g_callW (w2 := (fun (_ : Unit) => [(hm, .inr (6, [.int (0 : Int32), .ref m1, .ref m2, .ref m3, .ref m4, .ref m5, .int dr, .ref m7, .int (0 : Int32), .ref m9, .ref m10, .ref m11, .ref m12, .ref m13, .int rl, .ref m15, .ref m16, .ref m17])), (m1, .inl (cI, 12, .inl (fun _ => (0 : Int32)))), (m2, .inl (cI, 12, .inl (fun _ => (0 : Int32)))), (m3, .inl (cI, 12, .inl (fun _ => (0 : Int32)))), (m4, .inl (cI, 24, .inl (fun _ => (-1 : Int32)))), (m5, .inl (cZ, 12, .inl (fun _ => (0 : Int32))))])) (g_runV (q0 := 0) (ci := 6) B hK rfl rfl (r_resultOf l (D := D) (cI := cI) (cL := cL) (cZ := cZ) hm m1 m2 m3 m4 m5 m7 m9 m10 m11 m12 m13 m15 m16 m17 (0 : Int32) dr (0 : Int32) rl a1 (by omega)) (gPw.pre (av := [.ref hm, .int (nI a1)]) (wc := [(hm, .inr (6, [.int (0 : Int32), .ref m1, .ref m2, .ref m3, .ref m4, .ref m5, .int dr, .ref m7, .int (0 : Int32), .ref m9, .ref m10, .ref m11, .ref m12, .ref m13, .int rl, .ref m15, .ref m16, .ref m17])), (m1, .inl (cI, 12, .inl (fun _ => (0 : Int32)))), (m2, .inl (cI, 12, .inl (fun _ => (0 : Int32)))), (m3, .inl (cI, 12, .inl (fun _ => (0 : Int32)))), (m4, .inl (cI, 24, .inl (fun _ => (-1 : Int32)))), (m5, .inl (cZ, 12, .inl (fun _ => (0 : Int32))))]) hK hN [0, 1, 2, 3, 4, 5] rfl (by decide)) gX6_shrink_X6_resultOf rfl rfl kd_X6_resultOf ⟨by decide, by decide⟩ (st := []) rfl (Nat.le_of_ble_eq_true rfl) dX6_shrink_14 ⟨by decide, by decide⟩) hA (fun _ h => h) [0, 1, 2, 3, 4, 5] [] (wr := []) rfl rfl (by decide) (by decide) [0, 1, 2, 3, 4, 5] (by decide) (fun _ => rfl) (fun u hu => ?_)
  refine g_bipush (v := (100 : Int32)) B dX6_shrink_17 (by decide) ?_
  refine g_icmp_lt (tgt := 30) B dX6_shrink_19 (by decide) (fun _ => ?_) (fun c4 => absurd (by decide) c4)
  refine g_aload_n B dX6_shrink_30 0 rfl ?_
  refine g_iconst (v := (1 : Int32)) B dX6_shrink_31 (by decide) ?_
  refine g_callW (w2 := (fun (_ : Unit) => [(hm, .inr (6, [.int (1 : Int32), .ref m1, .ref m2, .ref m3, .ref m4, .ref m5, .int dr, .ref m7, .int (0 : Int32), .ref m9, .ref m10, .ref m11, .ref m12, .ref m13, .int rl, .ref m15, .ref m16, .ref m17])), (m1, .inl (cI, 12, .inl (fun _ => (0 : Int32)))), (m2, .inl (cI, 12, .inl (fun _ => (0 : Int32)))), (m3, .inl (cI, 12, .inl (fun _ => (0 : Int32)))), (m4, .inl (cI, 24, .inl (fun _ => (-1 : Int32)))), (m5, .inl (cZ, 12, .inl (fun _ => (0 : Int32))))])) (g_runV (q0 := 0) (ci := 6) B hK rfl rfl (r_no l (D := D) (cI := cI) (cL := cL) (cZ := cZ) hm m1 m2 m3 m4 m5 m7 m9 m10 m11 m12 m13 m15 m16 m17 (0 : Int32) dr (0 : Int32) rl (1 : Int32) ) (gPw.pre (av := [.ref hm, .int (1 : Int32)]) (wc := [(hm, .inr (6, [.int (0 : Int32), .ref m1, .ref m2, .ref m3, .ref m4, .ref m5, .int dr, .ref m7, .int (0 : Int32), .ref m9, .ref m10, .ref m11, .ref m12, .ref m13, .int rl, .ref m15, .ref m16, .ref m17]))]) hK hN [0] rfl (by decide)) gX6_shrink_X6_no rfl rfl kd_X6_no ⟨by decide, by decide⟩ (st := []) rfl (Nat.le_of_ble_eq_true rfl) dX6_shrink_32 ⟨by decide, by decide⟩) hA (fun _ h => h) [0] [1, 2, 3, 4, 5] (wr := [(m1, .inl (cI, 12, .inl (fun _ => (0 : Int32)))), (m2, .inl (cI, 12, .inl (fun _ => (0 : Int32)))), (m3, .inl (cI, 12, .inl (fun _ => (0 : Int32)))), (m4, .inl (cI, 24, .inl (fun _ => (-1 : Int32)))), (m5, .inl (cZ, 12, .inl (fun _ => (0 : Int32))))]) rfl rfl (by decide) (by decide) [5, 0, 1, 2, 3, 4] (by decide) (fun _ => rfl) (fun u hu => ?_)
  refine g_widen (k := 2) (n := 33) (by (try dsimp only); omega) (by (try dsimp only); omega) ?_
  exact g_iret_w B hr rfl hlocks () (rfl) (trivial) [0] (by decide) rfl dX6_shrink_35

set_option maxHeartbeats 4000000 in
set_option maxRecDepth 100000 in
theorem r_relation_x0 (l : Launch) {D : va_G} {cI cL cZ : ClassId} (hm : Nat) (m1 : Nat) (m2 : Nat) (m3 : Nat) (m4 : Nat) (m5 : Nat) (m7 : Nat) (m9 : Nat) (m10 : Nat) (m11 : Nat) (m12 : Nat) (m13 : Nat) (m15 : Nat) (m16 : Nat) (m17 : Nat) (th : Int32) (dr : Int32) (a1 : Int32) (a2 : Int32) (a3 : Int32) (h1 : inR a1 0 1 = false) : WM l yX6_relation wsX6_relation ({ frames := 1, cells := 0, slots := 0, locals := 22 } : Room) D (gTys cI cL cZ) [.ref hm, .int a1, .int a2, .int a3] [(hm, .inr (6, [.int th, .ref m1, .ref m2, .ref m3, .ref m4, .ref m5, .int dr, .ref m7, .int (0 : Int32), .ref m9, .ref m10, .ref m11, .ref m12, .ref m13, .int (0 : Int32), .ref m15, .ref m16, .ref m17]))] (fun (_ : Unit) => True) (fun (_ : Unit) => some (.int (0 : Int32))) (fun (_ : Unit) => [(hm, .inr (6, [.int (1 : Int32), .ref m1, .ref m2, .ref m3, .ref m4, .ref m5, .int dr, .ref m7, .int (0 : Int32), .ref m9, .ref m10, .ref m11, .ref m12, .ref m13, .int (0 : Int32), .ref m15, .ref m16, .ref m17]))]) := by
  refine WM.ofG cX6_relation 4 (some .int) (by decide +kernel) rfl (Nat.le_of_ble_eq_true rfl) ?_
  intro p e s m below meth c A hA B hr hlocks hname hK hN
  refine g_aload_n B dX6_relation_0 0 rfl ?_
  refine g_iconst (v := (0 : Int32)) B dX6_relation_1 (by decide) ?_
  refine g_put (C := RX6) (T := TX6) (N := 18) (ci := 6) B hK hin_X6_relation_RX6 0 rfl rfl 0 (by decide) tyX6 tyX6_ok nmX6 (List.mem_of_getElem? (i := 1) rfl) rfl rfl (ty := .int) (v := .int (0 : Int32)) (by decide +kernel) rfl rfl (Nat.le_of_ble_eq_true rfl) (w2 := [(hm, .inr (6, [.int (0 : Int32), .ref m1, .ref m2, .ref m3, .ref m4, .ref m5, .int dr, .ref m7, .int (0 : Int32), .ref m9, .ref m10, .ref m11, .ref m12, .ref m13, .int (0 : Int32), .ref m15, .ref m16, .ref m17]))]) rfl (fun _ h => h) dX6_relation_2 ?_
  refine g_iload_n B dX6_relation_5 1 rfl ?_
  refine g_iconst (v := (0 : Int32)) B dX6_relation_6 (by decide) ?_
  refine g_iconst (v := (1 : Int32)) B dX6_relation_7 (by decide) ?_
  refine g_callP (g_runS B (PM.met (r_isIn_f l (D := D) (cI := cI) (cL := cL) (cZ := cZ) a1 (0 : Int32) (1 : Int32) (by first | assumption | exact hy (by assumption) | exact hz (by assumption)))) (gPp.pre (av := [.int a1, .int (0 : Int32), .int (1 : Int32)]) (wc := []) hK hN [] rfl (by decide)) gX6_relation_X6_isIn rfl kd_X6_isIn ⟨by decide, by decide⟩ (st := []) rfl (Nat.le_of_ble_eq_true rfl) dX6_relation_8 ⟨by decide, by decide⟩) (fun u hu => ?_)
  refine g_if_eq (tgt := 23) B dX6_relation_11 (by decide) (fun _ => ?_) (fun c2 => absurd (by decide) c2)
  refine g_aload_n B dX6_relation_23 0 rfl ?_
  refine g_iconst (v := (1 : Int32)) B dX6_relation_24 (by decide) ?_
  refine g_callW (w2 := (fun (_ : Unit) => [(hm, .inr (6, [.int (1 : Int32), .ref m1, .ref m2, .ref m3, .ref m4, .ref m5, .int dr, .ref m7, .int (0 : Int32), .ref m9, .ref m10, .ref m11, .ref m12, .ref m13, .int (0 : Int32), .ref m15, .ref m16, .ref m17]))])) (g_runV (q0 := 0) (ci := 6) B hK rfl rfl (r_no l (D := D) (cI := cI) (cL := cL) (cZ := cZ) hm m1 m2 m3 m4 m5 m7 m9 m10 m11 m12 m13 m15 m16 m17 (0 : Int32) dr (0 : Int32) (0 : Int32) (1 : Int32) ) (gPw.pre (av := [.ref hm, .int (1 : Int32)]) (wc := [(hm, .inr (6, [.int (0 : Int32), .ref m1, .ref m2, .ref m3, .ref m4, .ref m5, .int dr, .ref m7, .int (0 : Int32), .ref m9, .ref m10, .ref m11, .ref m12, .ref m13, .int (0 : Int32), .ref m15, .ref m16, .ref m17]))]) hK hN [0] rfl (by decide)) gX6_relation_X6_no rfl rfl kd_X6_no ⟨by decide, by decide⟩ (st := []) rfl (Nat.le_of_ble_eq_true rfl) dX6_relation_25 ⟨by decide, by decide⟩) hA (fun _ h => h) [0] [] (wr := []) rfl rfl (by decide) (by decide) [0] (by decide) (fun _ => rfl) (fun u hu => ?_)
  exact g_iret_w B hr rfl hlocks () (rfl) (trivial) [0] (by decide) rfl dX6_relation_28

set_option maxHeartbeats 4000000 in
set_option maxRecDepth 100000 in
theorem r_relation_x1 (l : Launch) {D : va_G} {cI cL cZ : ClassId} (hm : Nat) (m1 : Nat) (m2 : Nat) (m3 : Nat) (m4 : Nat) (m5 : Nat) (m7 : Nat) (m9 : Nat) (m10 : Nat) (m11 : Nat) (m12 : Nat) (m13 : Nat) (m15 : Nat) (m16 : Nat) (m17 : Nat) (th : Int32) (dr : Int32) (a2 : Int32)  : WM l yX6_relation wsX6_relation ({ frames := 1, cells := 0, slots := 0, locals := 22 } : Room) D (gTys cI cL cZ) [.ref hm, .int (0 : Int32), .int a2, .int a2] [(hm, .inr (6, [.int th, .ref m1, .ref m2, .ref m3, .ref m4, .ref m5, .int dr, .ref m7, .int (0 : Int32), .ref m9, .ref m10, .ref m11, .ref m12, .ref m13, .int (0 : Int32), .ref m15, .ref m16, .ref m17]))] (fun (_ : Unit) => True) (fun (_ : Unit) => some (.int (0 : Int32))) (fun (_ : Unit) => [(hm, .inr (6, [.int (1 : Int32), .ref m1, .ref m2, .ref m3, .ref m4, .ref m5, .int dr, .ref m7, .int (0 : Int32), .ref m9, .ref m10, .ref m11, .ref m12, .ref m13, .int (0 : Int32), .ref m15, .ref m16, .ref m17]))]) := by
  refine WM.ofG cX6_relation 4 (some .int) (by decide +kernel) rfl (Nat.le_of_ble_eq_true rfl) ?_
  intro p e s m below meth c A hA B hr hlocks hname hK hN
  refine g_aload_n B dX6_relation_0 0 rfl ?_
  refine g_iconst (v := (0 : Int32)) B dX6_relation_1 (by decide) ?_
  refine g_put (C := RX6) (T := TX6) (N := 18) (ci := 6) B hK hin_X6_relation_RX6 0 rfl rfl 0 (by decide) tyX6 tyX6_ok nmX6 (List.mem_of_getElem? (i := 1) rfl) rfl rfl (ty := .int) (v := .int (0 : Int32)) (by decide +kernel) rfl rfl (Nat.le_of_ble_eq_true rfl) (w2 := [(hm, .inr (6, [.int (0 : Int32), .ref m1, .ref m2, .ref m3, .ref m4, .ref m5, .int dr, .ref m7, .int (0 : Int32), .ref m9, .ref m10, .ref m11, .ref m12, .ref m13, .int (0 : Int32), .ref m15, .ref m16, .ref m17]))]) rfl (fun _ h => h) dX6_relation_2 ?_
  refine g_iload_n B dX6_relation_5 1 rfl ?_
  refine g_iconst (v := (0 : Int32)) B dX6_relation_6 (by decide) ?_
  refine g_iconst (v := (1 : Int32)) B dX6_relation_7 (by decide) ?_
  refine g_callP (g_runS B (PM.met (r_isIn_n l (D := D) (cI := cI) (cL := cL) (cZ := cZ) 0 0 1 (by omega) (by omega) (by omega))) (gPp.pre (av := [.int (0 : Int32), .int (0 : Int32), .int (1 : Int32)]) (wc := []) hK hN [] rfl (by decide)) gX6_relation_X6_isIn rfl kd_X6_isIn ⟨by decide, by decide⟩ (st := []) rfl (Nat.le_of_ble_eq_true rfl) dX6_relation_8 ⟨by decide, by decide⟩) (fun u hu => ?_)
  refine g_if_eq (tgt := 23) B dX6_relation_11 (by decide) (fun c2 => absurd c2 (by decide)) (fun _ => ?_)
  refine g_iload_n B dX6_relation_14 1 rfl ?_
  refine g_if_ne (tgt := 29) B dX6_relation_15 (by decide) (fun c3 => absurd (by decide) c3) (fun _ => ?_)
  refine g_iload_n B dX6_relation_18 2 rfl ?_
  refine g_iload_n B dX6_relation_19 3 rfl ?_
  refine g_icmp_ne (tgt := 29) B dX6_relation_20 (by decide) (fun c4 => ?_) (fun c4 => ?_)
  · exfalso; exact c4 rfl
  refine g_aload_n B dX6_relation_23 0 rfl ?_
  refine g_iconst (v := (1 : Int32)) B dX6_relation_24 (by decide) ?_
  refine g_callW (w2 := (fun (_ : Unit) => [(hm, .inr (6, [.int (1 : Int32), .ref m1, .ref m2, .ref m3, .ref m4, .ref m5, .int dr, .ref m7, .int (0 : Int32), .ref m9, .ref m10, .ref m11, .ref m12, .ref m13, .int (0 : Int32), .ref m15, .ref m16, .ref m17]))])) (g_runV (q0 := 0) (ci := 6) B hK rfl rfl (r_no l (D := D) (cI := cI) (cL := cL) (cZ := cZ) hm m1 m2 m3 m4 m5 m7 m9 m10 m11 m12 m13 m15 m16 m17 (0 : Int32) dr (0 : Int32) (0 : Int32) (1 : Int32) ) (gPw.pre (av := [.ref hm, .int (1 : Int32)]) (wc := [(hm, .inr (6, [.int (0 : Int32), .ref m1, .ref m2, .ref m3, .ref m4, .ref m5, .int dr, .ref m7, .int (0 : Int32), .ref m9, .ref m10, .ref m11, .ref m12, .ref m13, .int (0 : Int32), .ref m15, .ref m16, .ref m17]))]) hK hN [0] rfl (by decide)) gX6_relation_X6_no rfl rfl kd_X6_no ⟨by decide, by decide⟩ (st := []) rfl (Nat.le_of_ble_eq_true rfl) dX6_relation_25 ⟨by decide, by decide⟩) hA (fun _ h => h) [0] [] (wr := []) rfl rfl (by decide) (by decide) [0] (by decide) (fun _ => rfl) (fun u hu => ?_)
  exact g_iret_w B hr rfl hlocks () (rfl) (trivial) [0] (by decide) rfl dX6_relation_28

set_option maxHeartbeats 4000000 in
set_option maxRecDepth 100000 in
theorem r_relation_x2 (l : Launch) {D : va_G} {cI cL cZ : ClassId} (hm : Nat) (m1 : Nat) (m2 : Nat) (m3 : Nat) (m4 : Nat) (m5 : Nat) (m7 : Nat) (m9 : Nat) (m10 : Nat) (m11 : Nat) (m12 : Nat) (m13 : Nat) (m15 : Nat) (m16 : Nat) (m17 : Nat) (th : Int32) (dr : Int32) (a2 : Int32) (a3 : Int32) (h0 : ¬ a2 = a3) (h1 : inR a2 0 3 = false) : WM l yX6_relation wsX6_relation ({ frames := 2, cells := 0, slots := 0, locals := 42 } : Room) D (gTys cI cL cZ) [.ref hm, .int (0 : Int32), .int a2, .int a3] [(hm, .inr (6, [.int th, .ref m1, .ref m2, .ref m3, .ref m4, .ref m5, .int dr, .ref m7, .int (0 : Int32), .ref m9, .ref m10, .ref m11, .ref m12, .ref m13, .int (0 : Int32), .ref m15, .ref m16, .ref m17]))] (fun (_ : Unit) => True) (fun (_ : Unit) => some (.int (0 : Int32))) (fun (_ : Unit) => [(hm, .inr (6, [.int (2 : Int32), .ref m1, .ref m2, .ref m3, .ref m4, .ref m5, .int dr, .ref m7, .int (0 : Int32), .ref m9, .ref m10, .ref m11, .ref m12, .ref m13, .int (0 : Int32), .ref m15, .ref m16, .ref m17]))]) := by
  refine WM.ofG cX6_relation 4 (some .int) (by decide +kernel) rfl (Nat.le_of_ble_eq_true rfl) ?_
  intro p e s m below meth c A hA B hr hlocks hname hK hN
  refine g_aload_n B dX6_relation_0 0 rfl ?_
  refine g_iconst (v := (0 : Int32)) B dX6_relation_1 (by decide) ?_
  refine g_put (C := RX6) (T := TX6) (N := 18) (ci := 6) B hK hin_X6_relation_RX6 0 rfl rfl 0 (by decide) tyX6 tyX6_ok nmX6 (List.mem_of_getElem? (i := 1) rfl) rfl rfl (ty := .int) (v := .int (0 : Int32)) (by decide +kernel) rfl rfl (Nat.le_of_ble_eq_true rfl) (w2 := [(hm, .inr (6, [.int (0 : Int32), .ref m1, .ref m2, .ref m3, .ref m4, .ref m5, .int dr, .ref m7, .int (0 : Int32), .ref m9, .ref m10, .ref m11, .ref m12, .ref m13, .int (0 : Int32), .ref m15, .ref m16, .ref m17]))]) rfl (fun _ h => h) dX6_relation_2 ?_
  refine g_iload_n B dX6_relation_5 1 rfl ?_
  refine g_iconst (v := (0 : Int32)) B dX6_relation_6 (by decide) ?_
  refine g_iconst (v := (1 : Int32)) B dX6_relation_7 (by decide) ?_
  refine g_callP (g_runS B (PM.met (r_isIn_n l (D := D) (cI := cI) (cL := cL) (cZ := cZ) 0 0 1 (by omega) (by omega) (by omega))) (gPp.pre (av := [.int (0 : Int32), .int (0 : Int32), .int (1 : Int32)]) (wc := []) hK hN [] rfl (by decide)) gX6_relation_X6_isIn rfl kd_X6_isIn ⟨by decide, by decide⟩ (st := []) rfl (Nat.le_of_ble_eq_true rfl) dX6_relation_8 ⟨by decide, by decide⟩) (fun u hu => ?_)
  refine g_if_eq (tgt := 23) B dX6_relation_11 (by decide) (fun c2 => absurd c2 (by decide)) (fun _ => ?_)
  refine g_iload_n B dX6_relation_14 1 rfl ?_
  refine g_if_ne (tgt := 29) B dX6_relation_15 (by decide) (fun c3 => absurd (by decide) c3) (fun _ => ?_)
  refine g_iload_n B dX6_relation_18 2 rfl ?_
  refine g_iload_n B dX6_relation_19 3 rfl ?_
  refine g_icmp_ne (tgt := 29) B dX6_relation_20 (by decide) (fun c4 => ?_) (fun c4 => ?_)
  rotate_left; · exfalso; exact h0 c4
  refine g_iload_n B dX6_relation_29 2 rfl ?_
  refine g_callP (g_runS B (PM.met (r_isSlot_f l (D := D) (cI := cI) (cL := cL) (cZ := cZ) a2 (by first | assumption | exact hy (by assumption) | exact hz (by assumption)))) (gPp.pre (av := [.int a2]) (wc := []) hK hN [] rfl (by decide)) gX6_relation_X6_isSlot rfl kd_X6_isSlot ⟨by decide, by decide⟩ (st := []) rfl (Nat.le_of_ble_eq_true rfl) dX6_relation_30 ⟨by decide, by decide⟩) (fun u hu => ?_)
  refine g_if_eq (tgt := 47) B dX6_relation_33 (by decide) (fun _ => ?_) (fun c6 => absurd (by decide) c6)
  refine g_aload_n B dX6_relation_47 0 rfl ?_
  refine g_iconst (v := (2 : Int32)) B dX6_relation_48 (by decide) ?_
  refine g_callW (w2 := (fun (_ : Unit) => [(hm, .inr (6, [.int (2 : Int32), .ref m1, .ref m2, .ref m3, .ref m4, .ref m5, .int dr, .ref m7, .int (0 : Int32), .ref m9, .ref m10, .ref m11, .ref m12, .ref m13, .int (0 : Int32), .ref m15, .ref m16, .ref m17]))])) (g_runV (q0 := 0) (ci := 6) B hK rfl rfl (r_no l (D := D) (cI := cI) (cL := cL) (cZ := cZ) hm m1 m2 m3 m4 m5 m7 m9 m10 m11 m12 m13 m15 m16 m17 (0 : Int32) dr (0 : Int32) (0 : Int32) (2 : Int32) ) (gPw.pre (av := [.ref hm, .int (2 : Int32)]) (wc := [(hm, .inr (6, [.int (0 : Int32), .ref m1, .ref m2, .ref m3, .ref m4, .ref m5, .int dr, .ref m7, .int (0 : Int32), .ref m9, .ref m10, .ref m11, .ref m12, .ref m13, .int (0 : Int32), .ref m15, .ref m16, .ref m17]))]) hK hN [0] rfl (by decide)) gX6_relation_X6_no rfl rfl kd_X6_no ⟨by decide, by decide⟩ (st := []) rfl (Nat.le_of_ble_eq_true rfl) dX6_relation_49 ⟨by decide, by decide⟩) hA (fun _ h => h) [0] [] (wr := []) rfl rfl (by decide) (by decide) [0] (by decide) (fun _ => rfl) (fun u hu => ?_)
  exact g_iret_w B hr rfl hlocks () (rfl) (trivial) [0] (by decide) rfl dX6_relation_52

set_option maxHeartbeats 4000000 in
set_option maxRecDepth 100000 in
theorem r_relation_x3 (l : Launch) {D : va_G} {cI cL cZ : ClassId} (hm : Nat) (m1 : Nat) (m2 : Nat) (m3 : Nat) (m4 : Nat) (m5 : Nat) (m7 : Nat) (m9 : Nat) (m10 : Nat) (m11 : Nat) (m12 : Nat) (m13 : Nat) (m15 : Nat) (m16 : Nat) (m17 : Nat) (th : Int32) (dr : Int32) (a2 : Int32) (a3 : Int32) (h0 : ¬ a2 = a3) (h1 : inR a2 0 3 = true) (h2 : inR a3 0 3 = false) : WM l yX6_relation wsX6_relation ({ frames := 2, cells := 0, slots := 0, locals := 42 } : Room) D (gTys cI cL cZ) [.ref hm, .int (0 : Int32), .int a2, .int a3] [(hm, .inr (6, [.int th, .ref m1, .ref m2, .ref m3, .ref m4, .ref m5, .int dr, .ref m7, .int (0 : Int32), .ref m9, .ref m10, .ref m11, .ref m12, .ref m13, .int (0 : Int32), .ref m15, .ref m16, .ref m17]))] (fun (_ : Unit) => True) (fun (_ : Unit) => some (.int (0 : Int32))) (fun (_ : Unit) => [(hm, .inr (6, [.int (2 : Int32), .ref m1, .ref m2, .ref m3, .ref m4, .ref m5, .int dr, .ref m7, .int (0 : Int32), .ref m9, .ref m10, .ref m11, .ref m12, .ref m13, .int (0 : Int32), .ref m15, .ref m16, .ref m17]))]) := by
  refine WM.ofG cX6_relation 4 (some .int) (by decide +kernel) rfl (Nat.le_of_ble_eq_true rfl) ?_
  intro p e s m below meth c A hA B hr hlocks hname hK hN
  refine g_aload_n B dX6_relation_0 0 rfl ?_
  refine g_iconst (v := (0 : Int32)) B dX6_relation_1 (by decide) ?_
  refine g_put (C := RX6) (T := TX6) (N := 18) (ci := 6) B hK hin_X6_relation_RX6 0 rfl rfl 0 (by decide) tyX6 tyX6_ok nmX6 (List.mem_of_getElem? (i := 1) rfl) rfl rfl (ty := .int) (v := .int (0 : Int32)) (by decide +kernel) rfl rfl (Nat.le_of_ble_eq_true rfl) (w2 := [(hm, .inr (6, [.int (0 : Int32), .ref m1, .ref m2, .ref m3, .ref m4, .ref m5, .int dr, .ref m7, .int (0 : Int32), .ref m9, .ref m10, .ref m11, .ref m12, .ref m13, .int (0 : Int32), .ref m15, .ref m16, .ref m17]))]) rfl (fun _ h => h) dX6_relation_2 ?_
  refine g_iload_n B dX6_relation_5 1 rfl ?_
  refine g_iconst (v := (0 : Int32)) B dX6_relation_6 (by decide) ?_
  refine g_iconst (v := (1 : Int32)) B dX6_relation_7 (by decide) ?_
  refine g_callP (g_runS B (PM.met (r_isIn_n l (D := D) (cI := cI) (cL := cL) (cZ := cZ) 0 0 1 (by omega) (by omega) (by omega))) (gPp.pre (av := [.int (0 : Int32), .int (0 : Int32), .int (1 : Int32)]) (wc := []) hK hN [] rfl (by decide)) gX6_relation_X6_isIn rfl kd_X6_isIn ⟨by decide, by decide⟩ (st := []) rfl (Nat.le_of_ble_eq_true rfl) dX6_relation_8 ⟨by decide, by decide⟩) (fun u hu => ?_)
  refine g_if_eq (tgt := 23) B dX6_relation_11 (by decide) (fun c2 => absurd c2 (by decide)) (fun _ => ?_)
  refine g_iload_n B dX6_relation_14 1 rfl ?_
  refine g_if_ne (tgt := 29) B dX6_relation_15 (by decide) (fun c3 => absurd (by decide) c3) (fun _ => ?_)
  refine g_iload_n B dX6_relation_18 2 rfl ?_
  refine g_iload_n B dX6_relation_19 3 rfl ?_
  refine g_icmp_ne (tgt := 29) B dX6_relation_20 (by decide) (fun c4 => ?_) (fun c4 => ?_)
  rotate_left; · exfalso; exact h0 c4
  refine g_iload_n B dX6_relation_29 2 rfl ?_
  refine g_callP (g_runS B (PM.met (r_isSlot_t l (D := D) (cI := cI) (cL := cL) (cZ := cZ) a2 (by first | assumption | exact hy (by assumption) | exact hz (by assumption)))) (gPp.pre (av := [.int a2]) (wc := []) hK hN [] rfl (by decide)) gX6_relation_X6_isSlot rfl kd_X6_isSlot ⟨by decide, by decide⟩ (st := []) rfl (Nat.le_of_ble_eq_true rfl) dX6_relation_30 ⟨by decide, by decide⟩) (fun u hu => ?_)
  refine g_if_eq (tgt := 47) B dX6_relation_33 (by decide) (fun c6 => absurd c6 (by decide)) (fun _ => ?_)
  refine g_iload_n B dX6_relation_36 1 rfl ?_
  refine g_if_ne (tgt := 53) B dX6_relation_37 (by decide) (fun c7 => absurd (by decide) c7) (fun _ => ?_)
  refine g_iload_n B dX6_relation_40 3 rfl ?_
  refine g_callP (g_runS B (PM.met (r_isSlot_f l (D := D) (cI := cI) (cL := cL) (cZ := cZ) a3 (by first | assumption | exact hy (by assumption) | exact hz (by assumption)))) (gPp.pre (av := [.int a3]) (wc := []) hK hN [] rfl (by decide)) gX6_relation_X6_isSlot rfl kd_X6_isSlot ⟨by decide, by decide⟩ (st := []) rfl (Nat.le_of_ble_eq_true rfl) dX6_relation_41 ⟨by decide, by decide⟩) (fun u hu => ?_)
  refine g_if_ne (tgt := 53) B dX6_relation_44 (by decide) (fun c9 => absurd (by decide) c9) (fun _ => ?_)
  refine g_aload_n B dX6_relation_47 0 rfl ?_
  refine g_iconst (v := (2 : Int32)) B dX6_relation_48 (by decide) ?_
  refine g_callW (w2 := (fun (_ : Unit) => [(hm, .inr (6, [.int (2 : Int32), .ref m1, .ref m2, .ref m3, .ref m4, .ref m5, .int dr, .ref m7, .int (0 : Int32), .ref m9, .ref m10, .ref m11, .ref m12, .ref m13, .int (0 : Int32), .ref m15, .ref m16, .ref m17]))])) (g_runV (q0 := 0) (ci := 6) B hK rfl rfl (r_no l (D := D) (cI := cI) (cL := cL) (cZ := cZ) hm m1 m2 m3 m4 m5 m7 m9 m10 m11 m12 m13 m15 m16 m17 (0 : Int32) dr (0 : Int32) (0 : Int32) (2 : Int32) ) (gPw.pre (av := [.ref hm, .int (2 : Int32)]) (wc := [(hm, .inr (6, [.int (0 : Int32), .ref m1, .ref m2, .ref m3, .ref m4, .ref m5, .int dr, .ref m7, .int (0 : Int32), .ref m9, .ref m10, .ref m11, .ref m12, .ref m13, .int (0 : Int32), .ref m15, .ref m16, .ref m17]))]) hK hN [0] rfl (by decide)) gX6_relation_X6_no rfl rfl kd_X6_no ⟨by decide, by decide⟩ (st := []) rfl (Nat.le_of_ble_eq_true rfl) dX6_relation_49 ⟨by decide, by decide⟩) hA (fun _ h => h) [0] [] (wr := []) rfl rfl (by decide) (by decide) [0] (by decide) (fun _ => rfl) (fun u hu => ?_)
  exact g_iret_w B hr rfl hlocks () (rfl) (trivial) [0] (by decide) rfl dX6_relation_52

set_option maxHeartbeats 4000000 in
set_option maxRecDepth 100000 in
theorem r_relation_v0 (l : Launch) {D : va_G} {cI cL cZ : ClassId} (hm : Nat) (m1 : Nat) (m2 : Nat) (m3 : Nat) (m4 : Nat) (m5 : Nat) (m7 : Nat) (m9 : Nat) (m10 : Nat) (m11 : Nat) (m12 : Nat) (m13 : Nat) (m15 : Nat) (m16 : Nat) (m17 : Nat) (th : Int32) (dr : Int32) (a2 : Int32) (a3 : Int32) (h0 : ¬ a2 = a3) (h1 : inR a2 0 3 = true) (h2 : inR a3 0 3 = true) : WM l yX6_relation wsX6_relation ({ frames := 2, cells := 0, slots := 0, locals := 42 } : Room) D (gTys cI cL cZ) [.ref hm, .int (0 : Int32), .int a2, .int a3] [(hm, .inr (6, [.int th, .ref m1, .ref m2, .ref m3, .ref m4, .ref m5, .int dr, .ref m7, .int (0 : Int32), .ref m9, .ref m10, .ref m11, .ref m12, .ref m13, .int (0 : Int32), .ref m15, .ref m16, .ref m17])), (m15, .inl (cI, 6, .inl (fun _ => (0 : Int32)))), (m16, .inl (cI, 6, .inl (fun _ => (0 : Int32)))), (m17, .inl (cI, 6, .inl (fun _ => (0 : Int32))))] (fun (_ : Unit) => True) (fun (_ : Unit) => some (.int (0 : Int32))) (fun (_ : Unit) => [(hm, .inr (6, [.int (0 : Int32), .ref m1, .ref m2, .ref m3, .ref m4, .ref m5, .int dr, .ref m7, .int (0 : Int32), .ref m9, .ref m10, .ref m11, .ref m12, .ref m13, .int (1 : Int32), .ref m15, .ref m16, .ref m17]))]) := by
  refine WM.ofG cX6_relation 4 (some .int) (by decide +kernel) rfl (Nat.le_of_ble_eq_true rfl) ?_
  intro p e s m below meth c A hA B hr hlocks hname hK hN
  refine g_aload_n B dX6_relation_0 0 rfl ?_
  refine g_iconst (v := (0 : Int32)) B dX6_relation_1 (by decide) ?_
  refine g_put (C := RX6) (T := TX6) (N := 18) (ci := 6) B hK hin_X6_relation_RX6 0 rfl rfl 0 (by decide) tyX6 tyX6_ok nmX6 (List.mem_of_getElem? (i := 1) rfl) rfl rfl (ty := .int) (v := .int (0 : Int32)) (by decide +kernel) rfl rfl (Nat.le_of_ble_eq_true rfl) (w2 := [(hm, .inr (6, [.int (0 : Int32), .ref m1, .ref m2, .ref m3, .ref m4, .ref m5, .int dr, .ref m7, .int (0 : Int32), .ref m9, .ref m10, .ref m11, .ref m12, .ref m13, .int (0 : Int32), .ref m15, .ref m16, .ref m17])), (m15, .inl (cI, 6, .inl (fun _ => (0 : Int32)))), (m16, .inl (cI, 6, .inl (fun _ => (0 : Int32)))), (m17, .inl (cI, 6, .inl (fun _ => (0 : Int32))))]) rfl (fun _ h => h) dX6_relation_2 ?_
  refine g_iload_n B dX6_relation_5 1 rfl ?_
  refine g_iconst (v := (0 : Int32)) B dX6_relation_6 (by decide) ?_
  refine g_iconst (v := (1 : Int32)) B dX6_relation_7 (by decide) ?_
  refine g_callP (g_runS B (PM.met (r_isIn_n l (D := D) (cI := cI) (cL := cL) (cZ := cZ) 0 0 1 (by omega) (by omega) (by omega))) (gPp.pre (av := [.int (0 : Int32), .int (0 : Int32), .int (1 : Int32)]) (wc := []) hK hN [] rfl (by decide)) gX6_relation_X6_isIn rfl kd_X6_isIn ⟨by decide, by decide⟩ (st := []) rfl (Nat.le_of_ble_eq_true rfl) dX6_relation_8 ⟨by decide, by decide⟩) (fun u hu => ?_)
  refine g_if_eq (tgt := 23) B dX6_relation_11 (by decide) (fun c2 => absurd c2 (by decide)) (fun _ => ?_)
  refine g_iload_n B dX6_relation_14 1 rfl ?_
  refine g_if_ne (tgt := 29) B dX6_relation_15 (by decide) (fun c3 => absurd (by decide) c3) (fun _ => ?_)
  refine g_iload_n B dX6_relation_18 2 rfl ?_
  refine g_iload_n B dX6_relation_19 3 rfl ?_
  refine g_icmp_ne (tgt := 29) B dX6_relation_20 (by decide) (fun c4 => ?_) (fun c4 => ?_)
  rotate_left; · exfalso; exact h0 c4
  refine g_iload_n B dX6_relation_29 2 rfl ?_
  refine g_callP (g_runS B (PM.met (r_isSlot_t l (D := D) (cI := cI) (cL := cL) (cZ := cZ) a2 (by first | assumption | exact hy (by assumption) | exact hz (by assumption)))) (gPp.pre (av := [.int a2]) (wc := []) hK hN [] rfl (by decide)) gX6_relation_X6_isSlot rfl kd_X6_isSlot ⟨by decide, by decide⟩ (st := []) rfl (Nat.le_of_ble_eq_true rfl) dX6_relation_30 ⟨by decide, by decide⟩) (fun u hu => ?_)
  refine g_if_eq (tgt := 47) B dX6_relation_33 (by decide) (fun c6 => absurd c6 (by decide)) (fun _ => ?_)
  refine g_iload_n B dX6_relation_36 1 rfl ?_
  refine g_if_ne (tgt := 53) B dX6_relation_37 (by decide) (fun c7 => absurd (by decide) c7) (fun _ => ?_)
  refine g_iload_n B dX6_relation_40 3 rfl ?_
  refine g_callP (g_runS B (PM.met (r_isSlot_t l (D := D) (cI := cI) (cL := cL) (cZ := cZ) a3 (by first | assumption | exact hy (by assumption) | exact hz (by assumption)))) (gPp.pre (av := [.int a3]) (wc := []) hK hN [] rfl (by decide)) gX6_relation_X6_isSlot rfl kd_X6_isSlot ⟨by decide, by decide⟩ (st := []) rfl (Nat.le_of_ble_eq_true rfl) dX6_relation_41 ⟨by decide, by decide⟩) (fun u hu => ?_)
  refine g_if_ne (tgt := 53) B dX6_relation_44 (by decide) (fun _ => ?_) (fun c9 => absurd c9 (by decide))
  refine g_aload_n B dX6_relation_53 0 rfl ?_
  refine g_get (C := RX6) (T := TX6) (N := 18) (ci := 6) B hK hin_X6_relation_RX6 0 rfl rfl 14 (by decide) (List.mem_of_getElem? (i := 2) rfl) rfl (v := .int (0 : Int32)) rfl dX6_relation_54 ?_
  refine g_bipush (v := (6 : Int32)) B dX6_relation_57 (by decide) ?_
  refine g_icmp_ne (tgt := 68) B dX6_relation_59 (by decide) (fun _ => ?_) (fun c10 => absurd c10 (by decide))
  refine g_aload_n B dX6_relation_68 0 rfl ?_
  refine g_get (C := RX6) (T := TX6) (N := 18) (ci := 6) B hK hin_X6_relation_RX6 0 rfl rfl 15 (by decide) (List.mem_of_getElem? (i := 3) rfl) rfl (v := .ref m15) rfl dX6_relation_69 ?_
  refine g_aload_n B dX6_relation_72 0 rfl ?_
  refine g_get (C := RX6) (T := TX6) (N := 18) (ci := 6) B hK hin_X6_relation_RX6 0 rfl rfl 14 (by decide) (List.mem_of_getElem? (i := 2) rfl) rfl (v := .int (0 : Int32)) rfl dX6_relation_73 ?_
  refine g_iload_n B dX6_relation_76 1 rfl ?_
  refine g_iast B hK 1 0 rfl rfl 0 rfl (by omega) (by omega) (f2 := (upd (fun _ => (0 : Int32)) 0 (0 : Int32))) (rfl) (w2 := [(hm, .inr (6, [.int (0 : Int32), .ref m1, .ref m2, .ref m3, .ref m4, .ref m5, .int dr, .ref m7, .int (0 : Int32), .ref m9, .ref m10, .ref m11, .ref m12, .ref m13, .int (0 : Int32), .ref m15, .ref m16, .ref m17])), (m15, .inl (cI, 6, .inl (upd (fun _ => (0 : Int32)) 0 (0 : Int32)))), (m16, .inl (cI, 6, .inl (fun _ => (0 : Int32)))), (m17, .inl (cI, 6, .inl (fun _ => (0 : Int32))))]) rfl (fun _ h => h) dX6_relation_77 ?_
  refine g_aload_n B dX6_relation_78 0 rfl ?_
  refine g_get (C := RX6) (T := TX6) (N := 18) (ci := 6) B hK hin_X6_relation_RX6 0 rfl rfl 16 (by decide) (List.mem_of_getElem? (i := 4) rfl) rfl (v := .ref m16) rfl dX6_relation_79 ?_
  refine g_aload_n B dX6_relation_82 0 rfl ?_
  refine g_get (C := RX6) (T := TX6) (N := 18) (ci := 6) B hK hin_X6_relation_RX6 0 rfl rfl 14 (by decide) (List.mem_of_getElem? (i := 2) rfl) rfl (v := .int (0 : Int32)) rfl dX6_relation_83 ?_
  refine g_iload_n B dX6_relation_86 2 rfl ?_
  refine g_iast B hK 2 0 rfl rfl 0 rfl (by omega) (by omega) (f2 := (upd (fun _ => (0 : Int32)) 0 a2)) (rfl) (w2 := [(hm, .inr (6, [.int (0 : Int32), .ref m1, .ref m2, .ref m3, .ref m4, .ref m5, .int dr, .ref m7, .int (0 : Int32), .ref m9, .ref m10, .ref m11, .ref m12, .ref m13, .int (0 : Int32), .ref m15, .ref m16, .ref m17])), (m15, .inl (cI, 6, .inl (upd (fun _ => (0 : Int32)) 0 (0 : Int32)))), (m16, .inl (cI, 6, .inl (upd (fun _ => (0 : Int32)) 0 a2))), (m17, .inl (cI, 6, .inl (fun _ => (0 : Int32))))]) rfl (fun _ h => h) dX6_relation_87 ?_
  refine g_aload_n B dX6_relation_88 0 rfl ?_
  refine g_get (C := RX6) (T := TX6) (N := 18) (ci := 6) B hK hin_X6_relation_RX6 0 rfl rfl 17 (by decide) (List.mem_of_getElem? (i := 5) rfl) rfl (v := .ref m17) rfl dX6_relation_89 ?_
  refine g_aload_n B dX6_relation_92 0 rfl ?_
  refine g_get (C := RX6) (T := TX6) (N := 18) (ci := 6) B hK hin_X6_relation_RX6 0 rfl rfl 14 (by decide) (List.mem_of_getElem? (i := 2) rfl) rfl (v := .int (0 : Int32)) rfl dX6_relation_93 ?_
  refine g_iload_n B dX6_relation_96 3 rfl ?_
  refine g_iast B hK 3 0 rfl rfl 0 rfl (by omega) (by omega) (f2 := (upd (fun _ => (0 : Int32)) 0 a3)) (rfl) (w2 := [(hm, .inr (6, [.int (0 : Int32), .ref m1, .ref m2, .ref m3, .ref m4, .ref m5, .int dr, .ref m7, .int (0 : Int32), .ref m9, .ref m10, .ref m11, .ref m12, .ref m13, .int (0 : Int32), .ref m15, .ref m16, .ref m17])), (m15, .inl (cI, 6, .inl (upd (fun _ => (0 : Int32)) 0 (0 : Int32)))), (m16, .inl (cI, 6, .inl (upd (fun _ => (0 : Int32)) 0 a2))), (m17, .inl (cI, 6, .inl (upd (fun _ => (0 : Int32)) 0 a3)))]) rfl (fun _ h => h) dX6_relation_97 ?_
  refine g_aload_n B dX6_relation_98 0 rfl ?_
  refine g_dup B dX6_relation_99 rfl ?_
  refine g_get (C := RX6) (T := TX6) (N := 18) (ci := 6) B hK hin_X6_relation_RX6 0 rfl rfl 14 (by decide) (List.mem_of_getElem? (i := 2) rfl) rfl (v := .int (0 : Int32)) rfl dX6_relation_100 ?_
  refine g_dup_x1 B dX6_relation_103 rfl rfl ?_
  refine g_iconst (v := (1 : Int32)) B dX6_relation_104 (by decide) ?_
  refine g_iadd (v := (1 : Int32)) B dX6_relation_105 (by decide) ?_
  refine g_put (C := RX6) (T := TX6) (N := 18) (ci := 6) B hK hin_X6_relation_RX6 0 rfl rfl 14 (by decide) tyX6 tyX6_ok nmX6 (List.mem_of_getElem? (i := 2) rfl) rfl rfl (ty := .int) (v := .int (1 : Int32)) (by decide +kernel) rfl rfl (Nat.le_of_ble_eq_true rfl) (w2 := [(hm, .inr (6, [.int (0 : Int32), .ref m1, .ref m2, .ref m3, .ref m4, .ref m5, .int dr, .ref m7, .int (0 : Int32), .ref m9, .ref m10, .ref m11, .ref m12, .ref m13, .int (1 : Int32), .ref m15, .ref m16, .ref m17])), (m15, .inl (cI, 6, .inl (upd (fun _ => (0 : Int32)) 0 (0 : Int32)))), (m16, .inl (cI, 6, .inl (upd (fun _ => (0 : Int32)) 0 a2))), (m17, .inl (cI, 6, .inl (upd (fun _ => (0 : Int32)) 0 a3)))]) rfl (fun _ h => h) dX6_relation_106 ?_
  exact g_iret_w B hr rfl hlocks () (rfl) (trivial) [0] (by decide) rfl dX6_relation_109

set_option maxHeartbeats 4000000 in
set_option maxRecDepth 100000 in
theorem r_relation_x4 (l : Launch) {D : va_G} {cI cL cZ : ClassId} (hm : Nat) (m1 : Nat) (m2 : Nat) (m3 : Nat) (m4 : Nat) (m5 : Nat) (m7 : Nat) (m9 : Nat) (m10 : Nat) (m11 : Nat) (m12 : Nat) (m13 : Nat) (m15 : Nat) (m16 : Nat) (m17 : Nat) (th : Int32) (dr : Int32) (a2 : Int32) (a3 : Int32) (h1 : inR a2 0 3 = false) : WM l yX6_relation wsX6_relation ({ frames := 2, cells := 0, slots := 0, locals := 42 } : Room) D (gTys cI cL cZ) [.ref hm, .int (1 : Int32), .int a2, .int a3] [(hm, .inr (6, [.int th, .ref m1, .ref m2, .ref m3, .ref m4, .ref m5, .int dr, .ref m7, .int (0 : Int32), .ref m9, .ref m10, .ref m11, .ref m12, .ref m13, .int (0 : Int32), .ref m15, .ref m16, .ref m17]))] (fun (_ : Unit) => True) (fun (_ : Unit) => some (.int (0 : Int32))) (fun (_ : Unit) => [(hm, .inr (6, [.int (2 : Int32), .ref m1, .ref m2, .ref m3, .ref m4, .ref m5, .int dr, .ref m7, .int (0 : Int32), .ref m9, .ref m10, .ref m11, .ref m12, .ref m13, .int (0 : Int32), .ref m15, .ref m16, .ref m17]))]) := by
  refine WM.ofG cX6_relation 4 (some .int) (by decide +kernel) rfl (Nat.le_of_ble_eq_true rfl) ?_
  intro p e s m below meth c A hA B hr hlocks hname hK hN
  refine g_aload_n B dX6_relation_0 0 rfl ?_
  refine g_iconst (v := (0 : Int32)) B dX6_relation_1 (by decide) ?_
  refine g_put (C := RX6) (T := TX6) (N := 18) (ci := 6) B hK hin_X6_relation_RX6 0 rfl rfl 0 (by decide) tyX6 tyX6_ok nmX6 (List.mem_of_getElem? (i := 1) rfl) rfl rfl (ty := .int) (v := .int (0 : Int32)) (by decide +kernel) rfl rfl (Nat.le_of_ble_eq_true rfl) (w2 := [(hm, .inr (6, [.int (0 : Int32), .ref m1, .ref m2, .ref m3, .ref m4, .ref m5, .int dr, .ref m7, .int (0 : Int32), .ref m9, .ref m10, .ref m11, .ref m12, .ref m13, .int (0 : Int32), .ref m15, .ref m16, .ref m17]))]) rfl (fun _ h => h) dX6_relation_2 ?_
  refine g_iload_n B dX6_relation_5 1 rfl ?_
  refine g_iconst (v := (0 : Int32)) B dX6_relation_6 (by decide) ?_
  refine g_iconst (v := (1 : Int32)) B dX6_relation_7 (by decide) ?_
  refine g_callP (g_runS B (PM.met (r_isIn_n l (D := D) (cI := cI) (cL := cL) (cZ := cZ) 1 0 1 (by omega) (by omega) (by omega))) (gPp.pre (av := [.int (1 : Int32), .int (0 : Int32), .int (1 : Int32)]) (wc := []) hK hN [] rfl (by decide)) gX6_relation_X6_isIn rfl kd_X6_isIn ⟨by decide, by decide⟩ (st := []) rfl (Nat.le_of_ble_eq_true rfl) dX6_relation_8 ⟨by decide, by decide⟩) (fun u hu => ?_)
  refine g_if_eq (tgt := 23) B dX6_relation_11 (by decide) (fun c2 => absurd c2 (by decide)) (fun _ => ?_)
  refine g_iload_n B dX6_relation_14 1 rfl ?_
  refine g_if_ne (tgt := 29) B dX6_relation_15 (by decide) (fun _ => ?_) (fun c3 => absurd c3 (by decide))
  refine g_iload_n B dX6_relation_29 2 rfl ?_
  refine g_callP (g_runS B (PM.met (r_isSlot_f l (D := D) (cI := cI) (cL := cL) (cZ := cZ) a2 (by first | assumption | exact hy (by assumption) | exact hz (by assumption)))) (gPp.pre (av := [.int a2]) (wc := []) hK hN [] rfl (by decide)) gX6_relation_X6_isSlot rfl kd_X6_isSlot ⟨by decide, by decide⟩ (st := []) rfl (Nat.le_of_ble_eq_true rfl) dX6_relation_30 ⟨by decide, by decide⟩) (fun u hu => ?_)
  refine g_if_eq (tgt := 47) B dX6_relation_33 (by decide) (fun _ => ?_) (fun c5 => absurd (by decide) c5)
  refine g_aload_n B dX6_relation_47 0 rfl ?_
  refine g_iconst (v := (2 : Int32)) B dX6_relation_48 (by decide) ?_
  refine g_callW (w2 := (fun (_ : Unit) => [(hm, .inr (6, [.int (2 : Int32), .ref m1, .ref m2, .ref m3, .ref m4, .ref m5, .int dr, .ref m7, .int (0 : Int32), .ref m9, .ref m10, .ref m11, .ref m12, .ref m13, .int (0 : Int32), .ref m15, .ref m16, .ref m17]))])) (g_runV (q0 := 0) (ci := 6) B hK rfl rfl (r_no l (D := D) (cI := cI) (cL := cL) (cZ := cZ) hm m1 m2 m3 m4 m5 m7 m9 m10 m11 m12 m13 m15 m16 m17 (0 : Int32) dr (0 : Int32) (0 : Int32) (2 : Int32) ) (gPw.pre (av := [.ref hm, .int (2 : Int32)]) (wc := [(hm, .inr (6, [.int (0 : Int32), .ref m1, .ref m2, .ref m3, .ref m4, .ref m5, .int dr, .ref m7, .int (0 : Int32), .ref m9, .ref m10, .ref m11, .ref m12, .ref m13, .int (0 : Int32), .ref m15, .ref m16, .ref m17]))]) hK hN [0] rfl (by decide)) gX6_relation_X6_no rfl rfl kd_X6_no ⟨by decide, by decide⟩ (st := []) rfl (Nat.le_of_ble_eq_true rfl) dX6_relation_49 ⟨by decide, by decide⟩) hA (fun _ h => h) [0] [] (wr := []) rfl rfl (by decide) (by decide) [0] (by decide) (fun _ => rfl) (fun u hu => ?_)
  exact g_iret_w B hr rfl hlocks () (rfl) (trivial) [0] (by decide) rfl dX6_relation_52

set_option maxHeartbeats 4000000 in
set_option maxRecDepth 100000 in
theorem r_relation_v1 (l : Launch) {D : va_G} {cI cL cZ : ClassId} (hm : Nat) (m1 : Nat) (m2 : Nat) (m3 : Nat) (m4 : Nat) (m5 : Nat) (m7 : Nat) (m9 : Nat) (m10 : Nat) (m11 : Nat) (m12 : Nat) (m13 : Nat) (m15 : Nat) (m16 : Nat) (m17 : Nat) (th : Int32) (dr : Int32) (a2 : Int32) (a3 : Int32) (h1 : inR a2 0 3 = true) : WM l yX6_relation wsX6_relation ({ frames := 2, cells := 0, slots := 0, locals := 42 } : Room) D (gTys cI cL cZ) [.ref hm, .int (1 : Int32), .int a2, .int a3] [(hm, .inr (6, [.int th, .ref m1, .ref m2, .ref m3, .ref m4, .ref m5, .int dr, .ref m7, .int (0 : Int32), .ref m9, .ref m10, .ref m11, .ref m12, .ref m13, .int (0 : Int32), .ref m15, .ref m16, .ref m17])), (m15, .inl (cI, 6, .inl (fun _ => (0 : Int32)))), (m16, .inl (cI, 6, .inl (fun _ => (0 : Int32)))), (m17, .inl (cI, 6, .inl (fun _ => (0 : Int32))))] (fun (_ : Unit) => True) (fun (_ : Unit) => some (.int (0 : Int32))) (fun (_ : Unit) => [(hm, .inr (6, [.int (0 : Int32), .ref m1, .ref m2, .ref m3, .ref m4, .ref m5, .int dr, .ref m7, .int (0 : Int32), .ref m9, .ref m10, .ref m11, .ref m12, .ref m13, .int (1 : Int32), .ref m15, .ref m16, .ref m17]))]) := by
  refine WM.ofG cX6_relation 4 (some .int) (by decide +kernel) rfl (Nat.le_of_ble_eq_true rfl) ?_
  intro p e s m below meth c A hA B hr hlocks hname hK hN
  refine g_aload_n B dX6_relation_0 0 rfl ?_
  refine g_iconst (v := (0 : Int32)) B dX6_relation_1 (by decide) ?_
  refine g_put (C := RX6) (T := TX6) (N := 18) (ci := 6) B hK hin_X6_relation_RX6 0 rfl rfl 0 (by decide) tyX6 tyX6_ok nmX6 (List.mem_of_getElem? (i := 1) rfl) rfl rfl (ty := .int) (v := .int (0 : Int32)) (by decide +kernel) rfl rfl (Nat.le_of_ble_eq_true rfl) (w2 := [(hm, .inr (6, [.int (0 : Int32), .ref m1, .ref m2, .ref m3, .ref m4, .ref m5, .int dr, .ref m7, .int (0 : Int32), .ref m9, .ref m10, .ref m11, .ref m12, .ref m13, .int (0 : Int32), .ref m15, .ref m16, .ref m17])), (m15, .inl (cI, 6, .inl (fun _ => (0 : Int32)))), (m16, .inl (cI, 6, .inl (fun _ => (0 : Int32)))), (m17, .inl (cI, 6, .inl (fun _ => (0 : Int32))))]) rfl (fun _ h => h) dX6_relation_2 ?_
  refine g_iload_n B dX6_relation_5 1 rfl ?_
  refine g_iconst (v := (0 : Int32)) B dX6_relation_6 (by decide) ?_
  refine g_iconst (v := (1 : Int32)) B dX6_relation_7 (by decide) ?_
  refine g_callP (g_runS B (PM.met (r_isIn_n l (D := D) (cI := cI) (cL := cL) (cZ := cZ) 1 0 1 (by omega) (by omega) (by omega))) (gPp.pre (av := [.int (1 : Int32), .int (0 : Int32), .int (1 : Int32)]) (wc := []) hK hN [] rfl (by decide)) gX6_relation_X6_isIn rfl kd_X6_isIn ⟨by decide, by decide⟩ (st := []) rfl (Nat.le_of_ble_eq_true rfl) dX6_relation_8 ⟨by decide, by decide⟩) (fun u hu => ?_)
  refine g_if_eq (tgt := 23) B dX6_relation_11 (by decide) (fun c2 => absurd c2 (by decide)) (fun _ => ?_)
  refine g_iload_n B dX6_relation_14 1 rfl ?_
  refine g_if_ne (tgt := 29) B dX6_relation_15 (by decide) (fun _ => ?_) (fun c3 => absurd c3 (by decide))
  refine g_iload_n B dX6_relation_29 2 rfl ?_
  refine g_callP (g_runS B (PM.met (r_isSlot_t l (D := D) (cI := cI) (cL := cL) (cZ := cZ) a2 (by first | assumption | exact hy (by assumption) | exact hz (by assumption)))) (gPp.pre (av := [.int a2]) (wc := []) hK hN [] rfl (by decide)) gX6_relation_X6_isSlot rfl kd_X6_isSlot ⟨by decide, by decide⟩ (st := []) rfl (Nat.le_of_ble_eq_true rfl) dX6_relation_30 ⟨by decide, by decide⟩) (fun u hu => ?_)
  refine g_if_eq (tgt := 47) B dX6_relation_33 (by decide) (fun c5 => absurd c5 (by decide)) (fun _ => ?_)
  refine g_iload_n B dX6_relation_36 1 rfl ?_
  refine g_if_ne (tgt := 53) B dX6_relation_37 (by decide) (fun _ => ?_) (fun c6 => absurd c6 (by decide))
  refine g_aload_n B dX6_relation_53 0 rfl ?_
  refine g_get (C := RX6) (T := TX6) (N := 18) (ci := 6) B hK hin_X6_relation_RX6 0 rfl rfl 14 (by decide) (List.mem_of_getElem? (i := 2) rfl) rfl (v := .int (0 : Int32)) rfl dX6_relation_54 ?_
  refine g_bipush (v := (6 : Int32)) B dX6_relation_57 (by decide) ?_
  refine g_icmp_ne (tgt := 68) B dX6_relation_59 (by decide) (fun _ => ?_) (fun c7 => absurd c7 (by decide))
  refine g_aload_n B dX6_relation_68 0 rfl ?_
  refine g_get (C := RX6) (T := TX6) (N := 18) (ci := 6) B hK hin_X6_relation_RX6 0 rfl rfl 15 (by decide) (List.mem_of_getElem? (i := 3) rfl) rfl (v := .ref m15) rfl dX6_relation_69 ?_
  refine g_aload_n B dX6_relation_72 0 rfl ?_
  refine g_get (C := RX6) (T := TX6) (N := 18) (ci := 6) B hK hin_X6_relation_RX6 0 rfl rfl 14 (by decide) (List.mem_of_getElem? (i := 2) rfl) rfl (v := .int (0 : Int32)) rfl dX6_relation_73 ?_
  refine g_iload_n B dX6_relation_76 1 rfl ?_
  refine g_iast B hK 1 0 rfl rfl 0 rfl (by omega) (by omega) (f2 := (upd (fun _ => (0 : Int32)) 0 (1 : Int32))) (rfl) (w2 := [(hm, .inr (6, [.int (0 : Int32), .ref m1, .ref m2, .ref m3, .ref m4, .ref m5, .int dr, .ref m7, .int (0 : Int32), .ref m9, .ref m10, .ref m11, .ref m12, .ref m13, .int (0 : Int32), .ref m15, .ref m16, .ref m17])), (m15, .inl (cI, 6, .inl (upd (fun _ => (0 : Int32)) 0 (1 : Int32)))), (m16, .inl (cI, 6, .inl (fun _ => (0 : Int32)))), (m17, .inl (cI, 6, .inl (fun _ => (0 : Int32))))]) rfl (fun _ h => h) dX6_relation_77 ?_
  refine g_aload_n B dX6_relation_78 0 rfl ?_
  refine g_get (C := RX6) (T := TX6) (N := 18) (ci := 6) B hK hin_X6_relation_RX6 0 rfl rfl 16 (by decide) (List.mem_of_getElem? (i := 4) rfl) rfl (v := .ref m16) rfl dX6_relation_79 ?_
  refine g_aload_n B dX6_relation_82 0 rfl ?_
  refine g_get (C := RX6) (T := TX6) (N := 18) (ci := 6) B hK hin_X6_relation_RX6 0 rfl rfl 14 (by decide) (List.mem_of_getElem? (i := 2) rfl) rfl (v := .int (0 : Int32)) rfl dX6_relation_83 ?_
  refine g_iload_n B dX6_relation_86 2 rfl ?_
  refine g_iast B hK 2 0 rfl rfl 0 rfl (by omega) (by omega) (f2 := (upd (fun _ => (0 : Int32)) 0 a2)) (rfl) (w2 := [(hm, .inr (6, [.int (0 : Int32), .ref m1, .ref m2, .ref m3, .ref m4, .ref m5, .int dr, .ref m7, .int (0 : Int32), .ref m9, .ref m10, .ref m11, .ref m12, .ref m13, .int (0 : Int32), .ref m15, .ref m16, .ref m17])), (m15, .inl (cI, 6, .inl (upd (fun _ => (0 : Int32)) 0 (1 : Int32)))), (m16, .inl (cI, 6, .inl (upd (fun _ => (0 : Int32)) 0 a2))), (m17, .inl (cI, 6, .inl (fun _ => (0 : Int32))))]) rfl (fun _ h => h) dX6_relation_87 ?_
  refine g_aload_n B dX6_relation_88 0 rfl ?_
  refine g_get (C := RX6) (T := TX6) (N := 18) (ci := 6) B hK hin_X6_relation_RX6 0 rfl rfl 17 (by decide) (List.mem_of_getElem? (i := 5) rfl) rfl (v := .ref m17) rfl dX6_relation_89 ?_
  refine g_aload_n B dX6_relation_92 0 rfl ?_
  refine g_get (C := RX6) (T := TX6) (N := 18) (ci := 6) B hK hin_X6_relation_RX6 0 rfl rfl 14 (by decide) (List.mem_of_getElem? (i := 2) rfl) rfl (v := .int (0 : Int32)) rfl dX6_relation_93 ?_
  refine g_iload_n B dX6_relation_96 3 rfl ?_
  refine g_iast B hK 3 0 rfl rfl 0 rfl (by omega) (by omega) (f2 := (upd (fun _ => (0 : Int32)) 0 a3)) (rfl) (w2 := [(hm, .inr (6, [.int (0 : Int32), .ref m1, .ref m2, .ref m3, .ref m4, .ref m5, .int dr, .ref m7, .int (0 : Int32), .ref m9, .ref m10, .ref m11, .ref m12, .ref m13, .int (0 : Int32), .ref m15, .ref m16, .ref m17])), (m15, .inl (cI, 6, .inl (upd (fun _ => (0 : Int32)) 0 (1 : Int32)))), (m16, .inl (cI, 6, .inl (upd (fun _ => (0 : Int32)) 0 a2))), (m17, .inl (cI, 6, .inl (upd (fun _ => (0 : Int32)) 0 a3)))]) rfl (fun _ h => h) dX6_relation_97 ?_
  refine g_aload_n B dX6_relation_98 0 rfl ?_
  refine g_dup B dX6_relation_99 rfl ?_
  refine g_get (C := RX6) (T := TX6) (N := 18) (ci := 6) B hK hin_X6_relation_RX6 0 rfl rfl 14 (by decide) (List.mem_of_getElem? (i := 2) rfl) rfl (v := .int (0 : Int32)) rfl dX6_relation_100 ?_
  refine g_dup_x1 B dX6_relation_103 rfl rfl ?_
  refine g_iconst (v := (1 : Int32)) B dX6_relation_104 (by decide) ?_
  refine g_iadd (v := (1 : Int32)) B dX6_relation_105 (by decide) ?_
  refine g_put (C := RX6) (T := TX6) (N := 18) (ci := 6) B hK hin_X6_relation_RX6 0 rfl rfl 14 (by decide) tyX6 tyX6_ok nmX6 (List.mem_of_getElem? (i := 2) rfl) rfl rfl (ty := .int) (v := .int (1 : Int32)) (by decide +kernel) rfl rfl (Nat.le_of_ble_eq_true rfl) (w2 := [(hm, .inr (6, [.int (0 : Int32), .ref m1, .ref m2, .ref m3, .ref m4, .ref m5, .int dr, .ref m7, .int (0 : Int32), .ref m9, .ref m10, .ref m11, .ref m12, .ref m13, .int (1 : Int32), .ref m15, .ref m16, .ref m17])), (m15, .inl (cI, 6, .inl (upd (fun _ => (0 : Int32)) 0 (1 : Int32)))), (m16, .inl (cI, 6, .inl (upd (fun _ => (0 : Int32)) 0 a2))), (m17, .inl (cI, 6, .inl (upd (fun _ => (0 : Int32)) 0 a3)))]) rfl (fun _ h => h) dX6_relation_106 ?_
  exact g_iret_w B hr rfl hlocks () (rfl) (trivial) [0] (by decide) rfl dX6_relation_109

set_option maxHeartbeats 4000000 in
set_option maxRecDepth 100000 in
theorem r_breaks_v (l : Launch) {D : va_G} {cI cL cZ : ClassId} (hm : Nat) (m1 : Nat) (m2 : Nat) (m3 : Nat) (m4 : Nat) (m5 : Nat) (m7 : Nat) (m9 : Nat) (m10 : Nat) (m11 : Nat) (m12 : Nat) (m13 : Nat) (m15 : Nat) (m16 : Nat) (m17 : Nat) (th : Int32) (dr : Int32) (a1 : Int32) (a2 : Int32)  : WM l yX6_breaks wsX6_breaks ({ frames := 1, cells := 0, slots := 0, locals := 22 } : Room) D (gTys cI cL cZ) [.ref hm, .int a1, .int a2] [(hm, .inr (6, [.int th, .ref m1, .ref m2, .ref m3, .ref m4, .ref m5, .int dr, .ref m7, .int (0 : Int32), .ref m9, .ref m10, .ref m11, .ref m12, .ref m13, .int (0 : Int32), .ref m15, .ref m16, .ref m17]))] (fun (_ : Unit) => True) (fun (_ : Unit) => some (.int (0 : Int32))) (fun (_ : Unit) => [(hm, .inr (6, [.int (1 : Int32), .ref m1, .ref m2, .ref m3, .ref m4, .ref m5, .int dr, .ref m7, .int (0 : Int32), .ref m9, .ref m10, .ref m11, .ref m12, .ref m13, .int (0 : Int32), .ref m15, .ref m16, .ref m17]))]) := by
  refine WM.ofG cX6_breaks 3 (some .boolean) (by decide +kernel) rfl (Nat.le_of_ble_eq_true rfl) ?_
  intro p e s m below meth c A hA B hr hlocks hname hK hN
  refine g_aload_n B dX6_breaks_0 0 rfl ?_
  refine g_iload_n B dX6_breaks_1 1 rfl ?_
  refine g_iconst (v := (0 : Int32)) B dX6_breaks_2 (by decide) ?_
  refine g_aload_n B dX6_breaks_3 0 rfl ?_
  refine g_get (C := RX6) (T := TX6) (N := 18) (ci := 6) B hK hin_X6_breaks_RX6 0 rfl rfl 14 (by decide) (List.mem_of_getElem? (i := 1) rfl) rfl (v := .int (0 : Int32)) rfl dX6_breaks_4 ?_
  refine g_iconst (v := (1 : Int32)) B dX6_breaks_7 (by decide) ?_
  refine g_isub (v := (-1 : Int32)) B dX6_breaks_8 (by decide) ?_
  refine g_callP (g_runS B (PM.met (r_isIn_e l (D := D) (cI := cI) (cL := cL) (cZ := cZ) a1 )) (gPp.pre (av := [.int a1, .int (0 : Int32), .int (-1 : Int32)]) (wc := []) hK hN [] rfl (by decide)) gX6_breaks_X6_isIn rfl kd_X6_isIn ⟨by decide, by decide⟩ (st := [.ref hm]) rfl (Nat.le_of_ble_eq_true rfl) dX6_breaks_9 ⟨by decide, by decide⟩) (fun u hu => ?_)
  refine g_if_ne (tgt := 19) B dX6_breaks_12 (by decide) (fun c2 => absurd (by decide) c2) (fun _ => ?_)
  refine g_iconst (v := (1 : Int32)) B dX6_breaks_15 (by decide) ?_
  refine g_goto (tgt := 31) B dX6_breaks_16 (by decide) ?_
  refine g_put (C := RX6) (T := TX6) (N := 18) (ci := 6) B hK hin_X6_breaks_RX6 0 rfl rfl 0 (by decide) tyX6 tyX6_ok nmX6 (List.mem_of_getElem? (i := 2) rfl) rfl rfl (ty := .int) (v := .int (1 : Int32)) (by decide +kernel) rfl rfl (Nat.le_of_ble_eq_true rfl) (w2 := [(hm, .inr (6, [.int (1 : Int32), .ref m1, .ref m2, .ref m3, .ref m4, .ref m5, .int dr, .ref m7, .int (0 : Int32), .ref m9, .ref m10, .ref m11, .ref m12, .ref m13, .int (0 : Int32), .ref m15, .ref m16, .ref m17]))]) rfl (fun _ h => h) dX6_breaks_31 ?_
  refine g_aload_n B dX6_breaks_34 0 rfl ?_
  refine g_get (C := RX6) (T := TX6) (N := 18) (ci := 6) B hK hin_X6_breaks_RX6 0 rfl rfl 0 (by decide) (List.mem_of_getElem? (i := 2) rfl) rfl (v := .int (1 : Int32)) rfl dX6_breaks_35 ?_
  refine g_if_ne (tgt := 54) B dX6_breaks_38 (by decide) (fun _ => ?_) (fun c3 => absurd c3 (by decide))
  refine g_iconst (v := (0 : Int32)) B dX6_breaks_54 (by decide) ?_
  exact g_iret_w B hr rfl hlocks () (rfl) (trivial) [0] (by decide) rfl dX6_breaks_55

set_option maxHeartbeats 4000000 in
set_option maxRecDepth 100000 in
theorem r_brokenBy_v (l : Launch) {D : va_G} {cI cL cZ : ClassId} (hm : Nat) (m1 : Nat) (m2 : Nat) (m3 : Nat) (m4 : Nat) (m5 : Nat) (m7 : Nat) (m9 : Nat) (m10 : Nat) (m11 : Nat) (m12 : Nat) (m13 : Nat) (m15 : Nat) (m16 : Nat) (m17 : Nat) (th : Int32) (dr : Int32) (a1 : Int32)  : WM l yX6_brokenBy wsX6_brokenBy ({ frames := 1, cells := 0, slots := 0, locals := 22 } : Room) D (gTys cI cL cZ) [.ref hm, .int a1] [(hm, .inr (6, [.int th, .ref m1, .ref m2, .ref m3, .ref m4, .ref m5, .int dr, .ref m7, .int (0 : Int32), .ref m9, .ref m10, .ref m11, .ref m12, .ref m13, .int (0 : Int32), .ref m15, .ref m16, .ref m17]))] (fun (_ : Unit) => True) (fun (_ : Unit) => some (.int (0 : Int32))) (fun (_ : Unit) => [(hm, .inr (6, [.int (1 : Int32), .ref m1, .ref m2, .ref m3, .ref m4, .ref m5, .int dr, .ref m7, .int (0 : Int32), .ref m9, .ref m10, .ref m11, .ref m12, .ref m13, .int (0 : Int32), .ref m15, .ref m16, .ref m17]))]) := by
  refine WM.ofG cX6_brokenBy 2 (some .int) (by decide +kernel) rfl (Nat.le_of_ble_eq_true rfl) ?_
  intro p e s m below meth c A hA B hr hlocks hname hK hN
  refine g_aload_n B dX6_brokenBy_0 0 rfl ?_
  refine g_iconst (v := (0 : Int32)) B dX6_brokenBy_1 (by decide) ?_
  refine g_put (C := RX6) (T := TX6) (N := 18) (ci := 6) B hK hin_X6_brokenBy_RX6 0 rfl rfl 0 (by decide) tyX6 tyX6_ok nmX6 (List.mem_of_getElem? (i := 1) rfl) rfl rfl (ty := .int) (v := .int (0 : Int32)) (by decide +kernel) rfl rfl (Nat.le_of_ble_eq_true rfl) (w2 := [(hm, .inr (6, [.int (0 : Int32), .ref m1, .ref m2, .ref m3, .ref m4, .ref m5, .int dr, .ref m7, .int (0 : Int32), .ref m9, .ref m10, .ref m11, .ref m12, .ref m13, .int (0 : Int32), .ref m15, .ref m16, .ref m17]))]) rfl (fun _ h => h) dX6_brokenBy_2 ?_
  refine g_iload_n B dX6_brokenBy_5 1 rfl ?_
  refine g_iconst (v := (0 : Int32)) B dX6_brokenBy_6 (by decide) ?_
  refine g_aload_n B dX6_brokenBy_7 0 rfl ?_
  refine g_get (C := RX6) (T := TX6) (N := 18) (ci := 6) B hK hin_X6_brokenBy_RX6 0 rfl rfl 14 (by decide) (List.mem_of_getElem? (i := 2) rfl) rfl (v := .int (0 : Int32)) rfl dX6_brokenBy_8 ?_
  refine g_iconst (v := (1 : Int32)) B dX6_brokenBy_11 (by decide) ?_
  refine g_isub (v := (-1 : Int32)) B dX6_brokenBy_12 (by decide) ?_
  refine g_callP (g_runS B (PM.met (r_isIn_e l (D := D) (cI := cI) (cL := cL) (cZ := cZ) a1 )) (gPp.pre (av := [.int a1, .int (0 : Int32), .int (-1 : Int32)]) (wc := []) hK hN [] rfl (by decide)) gX6_brokenBy_X6_isIn rfl kd_X6_isIn ⟨by decide, by decide⟩ (st := []) rfl (Nat.le_of_ble_eq_true rfl) dX6_brokenBy_13 ⟨by decide, by decide⟩) (fun u hu => ?_)
  refine g_if_eq (tgt := 27) B dX6_brokenBy_16 (by decide) (fun _ => ?_) (fun c2 => absurd (by decide) c2)
  refine g_aload_n B dX6_brokenBy_27 0 rfl ?_
  refine g_iconst (v := (1 : Int32)) B dX6_brokenBy_28 (by decide) ?_
  refine g_callW (w2 := (fun (_ : Unit) => [(hm, .inr (6, [.int (1 : Int32), .ref m1, .ref m2, .ref m3, .ref m4, .ref m5, .int dr, .ref m7, .int (0 : Int32), .ref m9, .ref m10, .ref m11, .ref m12, .ref m13, .int (0 : Int32), .ref m15, .ref m16, .ref m17]))])) (g_runV (q0 := 0) (ci := 6) B hK rfl rfl (r_no l (D := D) (cI := cI) (cL := cL) (cZ := cZ) hm m1 m2 m3 m4 m5 m7 m9 m10 m11 m12 m13 m15 m16 m17 (0 : Int32) dr (0 : Int32) (0 : Int32) (1 : Int32) ) (gPw.pre (av := [.ref hm, .int (1 : Int32)]) (wc := [(hm, .inr (6, [.int (0 : Int32), .ref m1, .ref m2, .ref m3, .ref m4, .ref m5, .int dr, .ref m7, .int (0 : Int32), .ref m9, .ref m10, .ref m11, .ref m12, .ref m13, .int (0 : Int32), .ref m15, .ref m16, .ref m17]))]) hK hN [0] rfl (by decide)) gX6_brokenBy_X6_no rfl rfl kd_X6_no ⟨by decide, by decide⟩ (st := []) rfl (Nat.le_of_ble_eq_true rfl) dX6_brokenBy_29 ⟨by decide, by decide⟩) hA (fun _ h => h) [0] [] (wr := []) rfl rfl (by decide) (by decide) [0] (by decide) (fun _ => rfl) (fun u hu => ?_)
  exact g_iret_w B hr rfl hlocks () (rfl) (trivial) [0] (by decide) rfl dX6_brokenBy_32

set_option maxHeartbeats 4000000 in
set_option maxRecDepth 100000 in
theorem r_wouldDropNow (l : Launch) {D : va_G} {cI cL cZ : ClassId} (hm : Nat) (m1 : Nat) (m2 : Nat) (m3 : Nat) (m4 : Nat) (m5 : Nat) (m7 : Nat) (m9 : Nat) (m10 : Nat) (m11 : Nat) (m12 : Nat) (m13 : Nat) (m15 : Nat) (m16 : Nat) (m17 : Nat) (th : Int32) (dr : Int32) (rl : Int32) (t : Nat) (ht : t < 10000) : WM l yX6_wouldDropNow wsX6_wouldDropNow ({ frames := 5, cells := 5, slots := 106, locals := 114 } : Room) D (gTys cI cL cZ) [.ref hm, .int (nI t)] [(hm, .inr (6, [.int th, .ref m1, .ref m2, .ref m3, .ref m4, .ref m5, .int dr, .ref m7, .int (0 : Int32), .ref m9, .ref m10, .ref m11, .ref m12, .ref m13, .int rl, .ref m15, .ref m16, .ref m17])), (m1, .inl (cI, 12, .inl (fun _ => (0 : Int32)))), (m2, .inl (cI, 12, .inl (fun _ => (0 : Int32)))), (m3, .inl (cI, 12, .inl (fun _ => (0 : Int32)))), (m4, .inl (cI, 24, .inl (fun _ => (-1 : Int32)))), (m5, .inl (cZ, 12, .inl (fun _ => (0 : Int32)))), (m13, .inl (cZ, 40, .inl (fun _ => (0 : Int32))))] (fun (_ : Unit) => True) (fun (_ : Unit) => some (.int (0 : Int32))) (fun (_ : Unit) => [(hm, .inr (6, [.int th, .ref m1, .ref m2, .ref m3, .ref m4, .ref m5, .int dr, .ref m7, .int (0 : Int32), .ref m9, .ref m10, .ref m11, .ref m12, .ref m13, .int rl, .ref m15, .ref m16, .ref m17])), (m1, .inl (cI, 12, .inl (fun _ => (0 : Int32)))), (m2, .inl (cI, 12, .inl (fun _ => (0 : Int32)))), (m3, .inl (cI, 12, .inl (fun _ => (0 : Int32)))), (m4, .inl (cI, 24, .inl (fun _ => (-1 : Int32)))), (m5, .inl (cZ, 12, .inl (fun _ => (0 : Int32)))), (m13, .inl (cZ, 40, .inl (fun _ => (0 : Int32))))]) := by
  refine WM.ofG cX6_wouldDropNow 7 (some .int) (by decide +kernel) rfl (Nat.le_of_ble_eq_true rfl) ?_
  intro p e s m below meth c A hA B hr hlocks hname hK hN
  refine g_aload_n B dX6_wouldDropNow_0 0 rfl ?_
  refine g_iload_n B dX6_wouldDropNow_1 1 rfl ?_
  refine g_callW (w2 := (fun (_ : Unit) => [(hm, .inr (6, [.int th, .ref m1, .ref m2, .ref m3, .ref m4, .ref m5, .int dr, .ref m7, .int (0 : Int32), .ref m9, .ref m10, .ref m11, .ref m12, .ref m13, .int rl, .ref m15, .ref m16, .ref m17])), (m1, .inl (cI, 12, .inl (fun _ => (0 : Int32)))), (m2, .inl (cI, 12, .inl (fun _ => (0 : Int32)))), (m3, .inl (cI, 12, .inl (fun _ => (0 : Int32)))), (m4, .inl (cI, 24, .inl (fun _ => (-1 : Int32)))), (m5, .inl (cZ, 12, .inl (fun _ => (0 : Int32)))), (m13, .inl (cZ, 40, .inl (fun _ => (0 : Int32))))])) (g_runV (q0 := 0) (ci := 6) B hK rfl rfl (r_edgesOf l (D := D) (cI := cI) (cL := cL) (cZ := cZ) hm m1 m2 m3 m4 m5 m7 m9 m10 m11 m12 m13 m15 m16 m17 th dr (0 : Int32) rl t (by omega)) (gPw.pre (av := [.ref hm, .int (nI t)]) (wc := [(hm, .inr (6, [.int th, .ref m1, .ref m2, .ref m3, .ref m4, .ref m5, .int dr, .ref m7, .int (0 : Int32), .ref m9, .ref m10, .ref m11, .ref m12, .ref m13, .int rl, .ref m15, .ref m16, .ref m17])), (m1, .inl (cI, 12, .inl (fun _ => (0 : Int32)))), (m2, .inl (cI, 12, .inl (fun _ => (0 : Int32)))), (m3, .inl (cI, 12, .inl (fun _ => (0 : Int32)))), (m4, .inl (cI, 24, .inl (fun _ => (-1 : Int32)))), (m5, .inl (cZ, 12, .inl (fun _ => (0 : Int32))))]) hK hN [0, 1, 2, 3, 4, 5] rfl (by decide)) gX6_wouldDropNow_X6_edgesOf rfl rfl kd_X6_edgesOf ⟨by decide, by decide⟩ (st := []) rfl (Nat.le_of_ble_eq_true rfl) dX6_wouldDropNow_2 ⟨by decide, by decide⟩) hA (fun _ h => h) [0, 1, 2, 3, 4, 5] [6] (wr := [(m13, .inl (cZ, 40, .inl (fun _ => (0 : Int32))))]) rfl rfl (by decide) (by decide) [1, 2, 3, 4, 5, 6, 0] (by decide) (fun _ => rfl) (fun u hu => ?_)
  refine g_istore_n (lv' := [(0, .ref hm), (1, .int (nI t)), (2, .int (2 : Int32))]) B dX6_wouldDropNow_5 rfl (by decide) [1, 2, 0] rfl ?_
  refine g_aload_n B dX6_wouldDropNow_6 0 rfl ?_
  refine g_iload_n B dX6_wouldDropNow_7 1 rfl ?_
  refine g_callW (w2 := (fun (_ : Unit) => [(hm, .inr (6, [.int th, .ref m1, .ref m2, .ref m3, .ref m4, .ref m5, .int dr, .ref m7, .int (0 : Int32), .ref m9, .ref m10, .ref m11, .ref m12, .ref m13, .int rl, .ref m15, .ref m16, .ref m17])), (m1, .inl (cI, 12, .inl (fun _ => (0 : Int32)))), (m2, .inl (cI, 12, .inl (fun _ => (0 : Int32)))), (m3, .inl (cI, 12, .inl (fun _ => (0 : Int32)))), (m4, .inl (cI, 24, .inl (fun _ => (-1 : Int32)))), (m5, .inl (cZ, 12, .inl (fun _ => (0 : Int32)))), (m13, .inl (cZ, 40, .inl (fun _ => (0 : Int32))))])) (g_runV (q0 := 0) (ci := 6) B hK rfl rfl (r_resultOf l (D := D) (cI := cI) (cL := cL) (cZ := cZ) hm m1 m2 m3 m4 m5 m7 m9 m10 m11 m12 m13 m15 m16 m17 th dr (0 : Int32) rl t (by omega)) (gPw.pre (av := [.ref hm, .int (nI t)]) (wc := [(hm, .inr (6, [.int th, .ref m1, .ref m2, .ref m3, .ref m4, .ref m5, .int dr, .ref m7, .int (0 : Int32), .ref m9, .ref m10, .ref m11, .ref m12, .ref m13, .int rl, .ref m15, .ref m16, .ref m17])), (m1, .inl (cI, 12, .inl (fun _ => (0 : Int32)))), (m2, .inl (cI, 12, .inl (fun _ => (0 : Int32)))), (m3, .inl (cI, 12, .inl (fun _ => (0 : Int32)))), (m4, .inl (cI, 24, .inl (fun _ => (-1 : Int32)))), (m5, .inl (cZ, 12, .inl (fun _ => (0 : Int32))))]) hK hN [0, 1, 2, 3, 4, 5] rfl (by decide)) gX6_wouldDropNow_X6_resultOf rfl rfl kd_X6_resultOf ⟨by decide, by decide⟩ (st := []) rfl (Nat.le_of_ble_eq_true rfl) dX6_wouldDropNow_8 ⟨by decide, by decide⟩) hA (fun _ h => h) [0, 1, 2, 3, 4, 5] [6] (wr := [(m13, .inl (cZ, 40, .inl (fun _ => (0 : Int32))))]) rfl rfl (by decide) (by decide) [1, 2, 3, 4, 5, 6, 0] (by decide) (fun _ => rfl) (fun u hu => ?_)
  refine g_istore_n (lv' := [(0, .ref hm), (1, .int (nI t)), (2, .int (2 : Int32)), (3, .int (1 : Int32))]) B dX6_wouldDropNow_11 rfl (by decide) [1, 2, 3, 0] rfl ?_
  refine g_aload_n B dX6_wouldDropNow_12 0 rfl ?_
  refine g_iload_n B dX6_wouldDropNow_13 1 rfl ?_
  refine g_callP (g_runV (q0 := 0) (ci := 6) B hK rfl rfl (PM.met (r_placeOf_0 l (D := D) (cI := cI) (cL := cL) (cZ := cZ) hm m1 m2 m3 m4 m5 m7 m9 m10 m11 m12 m13 m15 m16 m17 th dr rl (nI t) )) (gPp.pre (av := [.ref hm, .int (nI t)]) (wc := [(hm, .inr (6, [.int th, .ref m1, .ref m2, .ref m3, .ref m4, .ref m5, .int dr, .ref m7, .int (0 : Int32), .ref m9, .ref m10, .ref m11, .ref m12, .ref m13, .int rl, .ref m15, .ref m16, .ref m17]))]) hK hN [0] rfl (by decide)) gX6_wouldDropNow_X6_placeOf rfl rfl kd_X6_placeOf ⟨by decide, by decide⟩ (st := []) rfl (Nat.le_of_ble_eq_true rfl) dX6_wouldDropNow_14 ⟨by decide, by decide⟩) (fun u hu => ?_)
  refine g_iconst (v := (-1 : Int32)) B dX6_wouldDropNow_17 (by decide) ?_
  refine g_icmp_ne (tgt := 31) B dX6_wouldDropNow_18 (by decide) (fun c4 => absurd (by decide) c4) (fun _ => ?_)
  refine g_aload_n B dX6_wouldDropNow_21 0 rfl ?_
  refine g_iload_n B dX6_wouldDropNow_22 2 rfl ?_
  refine g_iload_n B dX6_wouldDropNow_23 3 rfl ?_
  refine g_iconst (v := (-1 : Int32)) B dX6_wouldDropNow_24 (by decide) ?_
  refine g_callP (g_runV (q0 := 0) (ci := 6) B hK rfl rfl (PM.met (r_isNeeded_0 l (D := D) (cI := cI) (cL := cL) (cZ := cZ) hm m1 m2 m3 m4 m5 m7 m9 m10 m11 m12 m13 m15 m16 m17 th dr rl )) (gPp.pre (av := [.ref hm, .int (2 : Int32), .int (1 : Int32), .int (-1 : Int32)]) (wc := [(hm, .inr (6, [.int th, .ref m1, .ref m2, .ref m3, .ref m4, .ref m5, .int dr, .ref m7, .int (0 : Int32), .ref m9, .ref m10, .ref m11, .ref m12, .ref m13, .int rl, .ref m15, .ref m16, .ref m17]))]) hK hN [0] rfl (by decide)) gX6_wouldDropNow_X6_isNeeded rfl rfl kd_X6_isNeeded ⟨by decide, by decide⟩ (st := []) rfl (Nat.le_of_ble_eq_true rfl) dX6_wouldDropNow_25 ⟨by decide, by decide⟩) (fun u hu => ?_)
  refine g_if_ne (tgt := 33) B dX6_wouldDropNow_28 (by decide) (fun _ => ?_) (fun c6 => absurd c6 (by decide))
  refine g_bipush (v := (40 : Int32)) B dX6_wouldDropNow_33 (by decide) ?_
  refine g_newa B hK hA 2 rfl rfl (List.mem_of_getElem? (i := 1) rfl) rfl (40, .inl (fun _ => (0 : Int32))) (cellZ_new 40) (by decide) (by decide) (by decide) (by decide) (by decide) dX6_wouldDropNow_35 (fun q7 => ?_)
  refine g_eqw (w2 := [(hm, .inr (6, [.int th, .ref m1, .ref m2, .ref m3, .ref m4, .ref m5, .int dr, .ref m7, .int (0 : Int32), .ref m9, .ref m10, .ref m11, .ref m12, .ref m13, .int rl, .ref m15, .ref m16, .ref m17])), (m1, .inl (cI, 12, .inl (fun _ => (0 : Int32)))), (m2, .inl (cI, 12, .inl (fun _ => (0 : Int32)))), (m3, .inl (cI, 12, .inl (fun _ => (0 : Int32)))), (m4, .inl (cI, 24, .inl (fun _ => (-1 : Int32)))), (m5, .inl (cZ, 12, .inl (fun _ => (0 : Int32)))), (m13, .inl (cZ, 40, .inl (fun _ => (0 : Int32)))), (q7, .inl (cZ, 40, .inl (fun _ => (0 : Int32))))]) rfl ?_
  refine g_astore (lv' := [(0, .ref hm), (1, .int (nI t)), (2, .int (2 : Int32)), (3, .int (1 : Int32)), (4, .ref q7)]) B dX6_wouldDropNow_37 (by decide) [1, 2, 3, 4, 0] rfl ?_
  refine g_aload_n B dX6_wouldDropNow_39 0 rfl ?_
  refine g_get (C := RX6) (T := TX6) (N := 18) (ci := 6) B hK hin_X6_wouldDropNow_RX6 0 rfl rfl 13 (by decide) (List.mem_of_getElem? (i := 2) rfl) rfl (v := .ref m13) rfl dX6_wouldDropNow_40 ?_
  refine g_iconst (v := (0 : Int32)) B dX6_wouldDropNow_43 (by decide) ?_
  refine g_aload B dX6_wouldDropNow_44 4 rfl ?_
  refine g_iconst (v := (0 : Int32)) B dX6_wouldDropNow_46 (by decide) ?_
  refine g_bipush (v := (40 : Int32)) B dX6_wouldDropNow_47 (by decide) ?_
  refine g_copyi B hK (List.mem_of_getElem? (i := 3) rfl) (List.mem_of_getElem? (i := 4) rfl) (List.mem_of_getElem? (i := 5) rfl) (List.mem_of_getElem? (i := 6) rfl) 6 7 2 rfl rfl rfl rfl 0 0 40 rfl rfl rfl (by decide) (by decide) (by decide) (by decide) (fun _ => (0 : Int32)) (by decide) (w2 := [(hm, .inr (6, [.int th, .ref m1, .ref m2, .ref m3, .ref m4, .ref m5, .int dr, .ref m7, .int (0 : Int32), .ref m9, .ref m10, .ref m11, .ref m12, .ref m13, .int rl, .ref m15, .ref m16, .ref m17])), (m1, .inl (cI, 12, .inl (fun _ => (0 : Int32)))), (m2, .inl (cI, 12, .inl (fun _ => (0 : Int32)))), (m3, .inl (cI, 12, .inl (fun _ => (0 : Int32)))), (m4, .inl (cI, 24, .inl (fun _ => (-1 : Int32)))), (m5, .inl (cZ, 12, .inl (fun _ => (0 : Int32)))), (m13, .inl (cZ, 40, .inl (fun _ => (0 : Int32)))), (q7, .inl (cZ, 40, .inl (fun _ => (0 : Int32))))]) rfl (fun _ h => h) (by decide) (by decide) dX6_wouldDropNow_49 ?_
  refine g_aload_n B dX6_wouldDropNow_52 0 rfl ?_
  refine g_callP (g_runV (q0 := 0) (ci := 6) B hK rfl rfl (PM.met (r_kept_0 l (D := D) (cI := cI) (cL := cL) (cZ := cZ) hm m1 m2 m3 m4 m5 m7 m9 m10 m11 m12 m13 m15 m16 m17 th dr rl )) (gPp.pre (av := [.ref hm]) (wc := [(hm, .inr (6, [.int th, .ref m1, .ref m2, .ref m3, .ref m4, .ref m5, .int dr, .ref m7, .int (0 : Int32), .ref m9, .ref m10, .ref m11, .ref m12, .ref m13, .int rl, .ref m15, .ref m16, .ref m17]))]) hK hN [0] rfl (by decide)) gX6_wouldDropNow_X6_kept rfl rfl kd_X6_kept ⟨by decide, by decide⟩ (st := []) rfl (Nat.le_of_ble_eq_true rfl) dX6_wouldDropNow_53 ⟨by decide, by decide⟩) (fun u hu => ?_)
  refine g_istore (lv' := [(0, .ref hm), (1, .int (nI t)), (2, .int (2 : Int32)), (3, .int (1 : Int32)), (4, .ref q7), (5, .int (0 : Int32))]) B dX6_wouldDropNow_56 (by decide) [1, 2, 3, 4, 5, 0] rfl ?_
  refine g_iconst (v := (0 : Int32)) B dX6_wouldDropNow_58 (by decide) ?_
  refine g_istore (lv' := [(0, .ref hm), (1, .int (nI t)), (2, .int (2 : Int32)), (3, .int (1 : Int32)), (4, .ref q7), (5, .int (0 : Int32)), (6, .int (0 : Int32))]) B dX6_wouldDropNow_59 (by decide) [1, 2, 3, 4, 5, 6, 0] rfl ?_
  refine g_iload B dX6_wouldDropNow_61 6 rfl ?_
  refine g_aload_n B dX6_wouldDropNow_63 0 rfl ?_
  refine g_get (C := RX6) (T := TX6) (N := 18) (ci := 6) B hK hin_X6_wouldDropNow_RX6 0 rfl rfl 8 (by decide) (List.mem_of_getElem? (i := 7) rfl) rfl (v := .int (0 : Int32)) rfl dX6_wouldDropNow_64 ?_
  refine g_icmp_ge (tgt := 151) B dX6_wouldDropNow_67 (by decide) (fun _ => ?_) (fun c9 => absurd (by decide) c9)
  refine g_iload B dX6_wouldDropNow_151 5 rfl ?_
  refine g_aload_n B dX6_wouldDropNow_153 0 rfl ?_
  refine g_callP (g_runV (q0 := 0) (ci := 6) B hK rfl rfl (PM.met (r_kept_0 l (D := D) (cI := cI) (cL := cL) (cZ := cZ) hm m1 m2 m3 m4 m5 m7 m9 m10 m11 m12 m13 m15 m16 m17 th dr rl )) (gPp.pre (av := [.ref hm]) (wc := [(hm, .inr (6, [.int th, .ref m1, .ref m2, .ref m3, .ref m4, .ref m5, .int dr, .ref m7, .int (0 : Int32), .ref m9, .ref m10, .ref m11, .ref m12, .ref m13, .int rl, .ref m15, .ref m16, .ref m17]))]) hK hN [0] rfl (by decide)) gX6_wouldDropNow_X6_kept rfl rfl kd_X6_kept ⟨by decide, by decide⟩ (st := [.int (0 : Int32)]) rfl (Nat.le_of_ble_eq_true rfl) dX6_wouldDropNow_154 ⟨by decide, by decide⟩) (fun u hu => ?_)
  refine g_isub (v := (0 : Int32)) B dX6_wouldDropNow_157 (by decide) ?_
  refine g_istore (lv' := [(0, .ref hm), (1, .int (nI t)), (2, .int (2 : Int32)), (3, .int (1 : Int32)), (4, .ref q7), (5, .int (0 : Int32)), (6, .int (0 : Int32))]) B dX6_wouldDropNow_158 (by decide) [1, 2, 3, 4, 5, 6, 0] rfl ?_
  refine g_aload B dX6_wouldDropNow_160 4 rfl ?_
  refine g_iconst (v := (0 : Int32)) B dX6_wouldDropNow_162 (by decide) ?_
  refine g_aload_n B dX6_wouldDropNow_163 0 rfl ?_
  refine g_get (C := RX6) (T := TX6) (N := 18) (ci := 6) B hK hin_X6_wouldDropNow_RX6 0 rfl rfl 13 (by decide) (List.mem_of_getElem? (i := 2) rfl) rfl (v := .ref m13) rfl dX6_wouldDropNow_164 ?_
  refine g_iconst (v := (0 : Int32)) B dX6_wouldDropNow_167 (by decide) ?_
  refine g_bipush (v := (40 : Int32)) B dX6_wouldDropNow_168 (by decide) ?_
  refine g_copyi B hK (List.mem_of_getElem? (i := 3) rfl) (List.mem_of_getElem? (i := 4) rfl) (List.mem_of_getElem? (i := 5) rfl) (List.mem_of_getElem? (i := 6) rfl) 7 6 2 rfl rfl rfl rfl 0 0 40 rfl rfl rfl (by decide) (by decide) (by decide) (by decide) (fun _ => (0 : Int32)) (by decide) (w2 := [(hm, .inr (6, [.int th, .ref m1, .ref m2, .ref m3, .ref m4, .ref m5, .int dr, .ref m7, .int (0 : Int32), .ref m9, .ref m10, .ref m11, .ref m12, .ref m13, .int rl, .ref m15, .ref m16, .ref m17])), (m1, .inl (cI, 12, .inl (fun _ => (0 : Int32)))), (m2, .inl (cI, 12, .inl (fun _ => (0 : Int32)))), (m3, .inl (cI, 12, .inl (fun _ => (0 : Int32)))), (m4, .inl (cI, 24, .inl (fun _ => (-1 : Int32)))), (m5, .inl (cZ, 12, .inl (fun _ => (0 : Int32)))), (m13, .inl (cZ, 40, .inl (fun _ => (0 : Int32)))), (q7, .inl (cZ, 40, .inl (fun _ => (0 : Int32))))]) rfl (fun _ h => h) (by decide) (by decide) dX6_wouldDropNow_170 ?_
  refine g_iload B dX6_wouldDropNow_173 6 rfl ?_
  refine g_widen (k := 5) (n := 106) (by (try dsimp only); omega) (by (try dsimp only); omega) ?_
  exact g_iret_w B hr rfl hlocks () (rfl) (trivial) [0, 1, 2, 3, 4, 5, 6] (by decide) rfl dX6_wouldDropNow_175

set_option maxHeartbeats 4000000 in
set_option maxRecDepth 100000 in
theorem r_wouldDrop_x0 (l : Launch) {D : va_G} {cI cL cZ : ClassId} (hm : Nat) (m1 : Nat) (m2 : Nat) (m3 : Nat) (m4 : Nat) (m5 : Nat) (m7 : Nat) (m9 : Nat) (m10 : Nat) (m11 : Nat) (m12 : Nat) (m13 : Nat) (m15 : Nat) (m16 : Nat) (m17 : Nat) (th : Int32) (dr : Int32) (rl : Int32) (a1 : Int32) (h1 : inR a1 0 9999 = false) : WM l yX6_wouldDrop wsX6_wouldDrop ({ frames := 2, cells := 0, slots := 0, locals := 42 } : Room) D (gTys cI cL cZ) [.ref hm, .int a1] [(hm, .inr (6, [.int th, .ref m1, .ref m2, .ref m3, .ref m4, .ref m5, .int dr, .ref m7, .int (0 : Int32), .ref m9, .ref m10, .ref m11, .ref m12, .ref m13, .int rl, .ref m15, .ref m16, .ref m17]))] (fun (_ : Unit) => True) (fun (_ : Unit) => some (.int (0 : Int32))) (fun (_ : Unit) => [(hm, .inr (6, [.int (1 : Int32), .ref m1, .ref m2, .ref m3, .ref m4, .ref m5, .int dr, .ref m7, .int (0 : Int32), .ref m9, .ref m10, .ref m11, .ref m12, .ref m13, .int rl, .ref m15, .ref m16, .ref m17]))]) := by
  refine WM.ofG cX6_wouldDrop 2 (some .int) (by decide +kernel) rfl (Nat.le_of_ble_eq_true rfl) ?_
  intro p e s m below meth c A hA B hr hlocks hname hK hN
  refine g_aload_n B dX6_wouldDrop_0 0 rfl ?_
  refine g_iconst (v := (0 : Int32)) B dX6_wouldDrop_1 (by decide) ?_
  refine g_put (C := RX6) (T := TX6) (N := 18) (ci := 6) B hK hin_X6_wouldDrop_RX6 0 rfl rfl 0 (by decide) tyX6 tyX6_ok nmX6 (List.mem_of_getElem? (i := 1) rfl) rfl rfl (ty := .int) (v := .int (0 : Int32)) (by decide +kernel) rfl rfl (Nat.le_of_ble_eq_true rfl) (w2 := [(hm, .inr (6, [.int (0 : Int32), .ref m1, .ref m2, .ref m3, .ref m4, .ref m5, .int dr, .ref m7, .int (0 : Int32), .ref m9, .ref m10, .ref m11, .ref m12, .ref m13, .int rl, .ref m15, .ref m16, .ref m17]))]) rfl (fun _ h => h) dX6_wouldDrop_2 ?_
  refine g_iload_n B dX6_wouldDrop_5 1 rfl ?_
  refine g_callP (g_runS B (PM.met (r_isCase_f l (D := D) (cI := cI) (cL := cL) (cZ := cZ) a1 (by first | assumption | exact hy (by assumption) | exact hz (by assumption)))) (gPp.pre (av := [.int a1]) (wc := []) hK hN [] rfl (by decide)) gX6_wouldDrop_X6_isCase rfl kd_X6_isCase ⟨by decide, by decide⟩ (st := []) rfl (Nat.le_of_ble_eq_true rfl) dX6_wouldDrop_6 ⟨by decide, by decide⟩) (fun u hu => ?_)
  refine g_if_eq (tgt := 20) B dX6_wouldDrop_9 (by decide) (fun _ => ?_) (fun c2 => absurd (by decide) c2)
  refine g_aload_n B dX6_wouldDrop_20 0 rfl ?_
  refine g_iconst (v := (1 : Int32)) B dX6_wouldDrop_21 (by decide) ?_
  refine g_callW (w2 := (fun (_ : Unit) => [(hm, .inr (6, [.int (1 : Int32), .ref m1, .ref m2, .ref m3, .ref m4, .ref m5, .int dr, .ref m7, .int (0 : Int32), .ref m9, .ref m10, .ref m11, .ref m12, .ref m13, .int rl, .ref m15, .ref m16, .ref m17]))])) (g_runV (q0 := 0) (ci := 6) B hK rfl rfl (r_no l (D := D) (cI := cI) (cL := cL) (cZ := cZ) hm m1 m2 m3 m4 m5 m7 m9 m10 m11 m12 m13 m15 m16 m17 (0 : Int32) dr (0 : Int32) rl (1 : Int32) ) (gPw.pre (av := [.ref hm, .int (1 : Int32)]) (wc := [(hm, .inr (6, [.int (0 : Int32), .ref m1, .ref m2, .ref m3, .ref m4, .ref m5, .int dr, .ref m7, .int (0 : Int32), .ref m9, .ref m10, .ref m11, .ref m12, .ref m13, .int rl, .ref m15, .ref m16, .ref m17]))]) hK hN [0] rfl (by decide)) gX6_wouldDrop_X6_no rfl rfl kd_X6_no ⟨by decide, by decide⟩ (st := []) rfl (Nat.le_of_ble_eq_true rfl) dX6_wouldDrop_22 ⟨by decide, by decide⟩) hA (fun _ h => h) [0] [] (wr := []) rfl rfl (by decide) (by decide) [0] (by decide) (fun _ => rfl) (fun u hu => ?_)
  exact g_iret_w B hr rfl hlocks () (rfl) (trivial) [0] (by decide) rfl dX6_wouldDrop_25

set_option maxHeartbeats 4000000 in
set_option maxRecDepth 100000 in
theorem r_wouldDrop_v (l : Launch) {D : va_G} {cI cL cZ : ClassId} (hm : Nat) (m1 : Nat) (m2 : Nat) (m3 : Nat) (m4 : Nat) (m5 : Nat) (m7 : Nat) (m9 : Nat) (m10 : Nat) (m11 : Nat) (m12 : Nat) (m13 : Nat) (m15 : Nat) (m16 : Nat) (m17 : Nat) (th : Int32) (dr : Int32) (rl : Int32) (a1 : Nat) (h1 : a1 < 10000) : WM l yX6_wouldDrop wsX6_wouldDrop ({ frames := 6, cells := 5, slots := 106, locals := 140 } : Room) D (gTys cI cL cZ) [.ref hm, .int (nI a1)] [(hm, .inr (6, [.int th, .ref m1, .ref m2, .ref m3, .ref m4, .ref m5, .int dr, .ref m7, .int (0 : Int32), .ref m9, .ref m10, .ref m11, .ref m12, .ref m13, .int rl, .ref m15, .ref m16, .ref m17])), (m1, .inl (cI, 12, .inl (fun _ => (0 : Int32)))), (m2, .inl (cI, 12, .inl (fun _ => (0 : Int32)))), (m3, .inl (cI, 12, .inl (fun _ => (0 : Int32)))), (m4, .inl (cI, 24, .inl (fun _ => (-1 : Int32)))), (m5, .inl (cZ, 12, .inl (fun _ => (0 : Int32)))), (m13, .inl (cZ, 40, .inl (fun _ => (0 : Int32))))] (fun (_ : Unit) => True) (fun (_ : Unit) => some (.int (0 : Int32))) (fun (_ : Unit) => [(hm, .inr (6, [.int (0 : Int32), .ref m1, .ref m2, .ref m3, .ref m4, .ref m5, .int dr, .ref m7, .int (0 : Int32), .ref m9, .ref m10, .ref m11, .ref m12, .ref m13, .int rl, .ref m15, .ref m16, .ref m17]))]) := by
  refine WM.ofG cX6_wouldDrop 2 (some .int) (by decide +kernel) rfl (Nat.le_of_ble_eq_true rfl) ?_
  intro p e s m below meth c A hA B hr hlocks hname hK hN
  refine g_aload_n B dX6_wouldDrop_0 0 rfl ?_
  refine g_iconst (v := (0 : Int32)) B dX6_wouldDrop_1 (by decide) ?_
  refine g_put (C := RX6) (T := TX6) (N := 18) (ci := 6) B hK hin_X6_wouldDrop_RX6 0 rfl rfl 0 (by decide) tyX6 tyX6_ok nmX6 (List.mem_of_getElem? (i := 1) rfl) rfl rfl (ty := .int) (v := .int (0 : Int32)) (by decide +kernel) rfl rfl (Nat.le_of_ble_eq_true rfl) (w2 := [(hm, .inr (6, [.int (0 : Int32), .ref m1, .ref m2, .ref m3, .ref m4, .ref m5, .int dr, .ref m7, .int (0 : Int32), .ref m9, .ref m10, .ref m11, .ref m12, .ref m13, .int rl, .ref m15, .ref m16, .ref m17])), (m1, .inl (cI, 12, .inl (fun _ => (0 : Int32)))), (m2, .inl (cI, 12, .inl (fun _ => (0 : Int32)))), (m3, .inl (cI, 12, .inl (fun _ => (0 : Int32)))), (m4, .inl (cI, 24, .inl (fun _ => (-1 : Int32)))), (m5, .inl (cZ, 12, .inl (fun _ => (0 : Int32)))), (m13, .inl (cZ, 40, .inl (fun _ => (0 : Int32))))]) rfl (fun _ h => h) dX6_wouldDrop_2 ?_
  refine g_iload_n B dX6_wouldDrop_5 1 rfl ?_
  refine g_callP (g_runS B (PM.met (r_isCase_n l (D := D) (cI := cI) (cL := cL) (cZ := cZ) a1 (by omega))) (gPp.pre (av := [.int (nI a1)]) (wc := []) hK hN [] rfl (by decide)) gX6_wouldDrop_X6_isCase rfl kd_X6_isCase ⟨by decide, by decide⟩ (st := []) rfl (Nat.le_of_ble_eq_true rfl) dX6_wouldDrop_6 ⟨by decide, by decide⟩) (fun u hu => ?_)
  refine g_if_eq (tgt := 20) B dX6_wouldDrop_9 (by decide) (fun c2 => absurd c2 (by decide)) (fun _ => ?_)
  refine g_aload_n B dX6_wouldDrop_12 0 rfl ?_
  refine g_iload_n B dX6_wouldDrop_13 1 rfl ?_
  refine g_callW (w2 := (fun (_ : Unit) => [(hm, .inr (6, [.int (0 : Int32), .ref m1, .ref m2, .ref m3, .ref m4, .ref m5, .int dr, .ref m7, .int (0 : Int32), .ref m9, .ref m10, .ref m11, .ref m12, .ref m13, .int rl, .ref m15, .ref m16, .ref m17])), (m1, .inl (cI, 12, .inl (fun _ => (0 : Int32)))), (m2, .inl (cI, 12, .inl (fun _ => (0 : Int32)))), (m3, .inl (cI, 12, .inl (fun _ => (0 : Int32)))), (m4, .inl (cI, 24, .inl (fun _ => (-1 : Int32)))), (m5, .inl (cZ, 12, .inl (fun _ => (0 : Int32)))), (m13, .inl (cZ, 40, .inl (fun _ => (0 : Int32))))])) (g_runV (q0 := 0) (ci := 6) B hK rfl rfl (r_wouldDropNow l (D := D) (cI := cI) (cL := cL) (cZ := cZ) hm m1 m2 m3 m4 m5 m7 m9 m10 m11 m12 m13 m15 m16 m17 (0 : Int32) dr rl a1 (by omega)) (gPw.pre (av := [.ref hm, .int (nI a1)]) (wc := [(hm, .inr (6, [.int (0 : Int32), .ref m1, .ref m2, .ref m3, .ref m4, .ref m5, .int dr, .ref m7, .int (0 : Int32), .ref m9, .ref m10, .ref m11, .ref m12, .ref m13, .int rl, .ref m15, .ref m16, .ref m17])), (m1, .inl (cI, 12, .inl (fun _ => (0 : Int32)))), (m2, .inl (cI, 12, .inl (fun _ => (0 : Int32)))), (m3, .inl (cI, 12, .inl (fun _ => (0 : Int32)))), (m4, .inl (cI, 24, .inl (fun _ => (-1 : Int32)))), (m5, .inl (cZ, 12, .inl (fun _ => (0 : Int32)))), (m13, .inl (cZ, 40, .inl (fun _ => (0 : Int32))))]) hK hN [0, 1, 2, 3, 4, 5, 6] rfl (by decide)) gX6_wouldDrop_X6_wouldDropNow rfl rfl kd_X6_wouldDropNow ⟨by decide, by decide⟩ (st := []) rfl (Nat.le_of_ble_eq_true rfl) dX6_wouldDrop_14 ⟨by decide, by decide⟩) hA (fun _ h => h) [0, 1, 2, 3, 4, 5, 6] [] (wr := []) rfl rfl (by decide) (by decide) [0, 1, 2, 3, 4, 5, 6] (by decide) (fun _ => rfl) (fun u hu => ?_)
  refine g_goto (tgt := 25) B dX6_wouldDrop_17 (by decide) ?_
  refine g_widen (k := 5) (n := 106) (by (try dsimp only); omega) (by (try dsimp only); omega) ?_
  exact g_iret_w B hr rfl hlocks () (rfl) (trivial) [0] (by decide) rfl dX6_wouldDrop_25

set_option maxHeartbeats 4000000 in
set_option maxRecDepth 100000 in
theorem r_otherwise_x0 (l : Launch) {D : va_G} {cI cL cZ : ClassId} (hm : Nat) (m1 : Nat) (m2 : Nat) (m3 : Nat) (m4 : Nat) (m5 : Nat) (m7 : Nat) (m9 : Nat) (m10 : Nat) (m11 : Nat) (m12 : Nat) (m13 : Nat) (m15 : Nat) (m16 : Nat) (m17 : Nat) (th : Int32) (dr : Int32) (rl : Int32) (a1 : Int32) (a2 : Int32) (a3 : Int32) (h_a1 : inR a1 0 11 = false) : WM l yX6_otherwise wsX6_otherwise ({ frames := 2, cells := 0, slots := 0, locals := 42 } : Room) D (gTys cI cL cZ) [.ref hm, .int a1, .int a2, .int a3] [(hm, .inr (6, [.int th, .ref m1, .ref m2, .ref m3, .ref m4, .ref m5, .int dr, .ref m7, .int (0 : Int32), .ref m9, .ref m10, .ref m11, .ref m12, .ref m13, .int rl, .ref m15, .ref m16, .ref m17]))] (fun (_ : Unit) => True) (fun (_ : Unit) => some (.int (0 : Int32))) (fun (_ : Unit) => [(hm, .inr (6, [.int (1 : Int32), .ref m1, .ref m2, .ref m3, .ref m4, .ref m5, .int dr, .ref m7, .int (0 : Int32), .ref m9, .ref m10, .ref m11, .ref m12, .ref m13, .int rl, .ref m15, .ref m16, .ref m17]))]) := by
  refine WM.ofG cX6_otherwise 8 (some .int) (by decide +kernel) rfl (Nat.le_of_ble_eq_true rfl) ?_
  intro p e s m below meth c A hA B hr hlocks hname hK hN
  refine g_aload_n B dX6_otherwise_0 0 rfl ?_
  refine g_iconst (v := (0 : Int32)) B dX6_otherwise_1 (by decide) ?_
  refine g_put (C := RX6) (T := TX6) (N := 18) (ci := 6) B hK hin_X6_otherwise_RX6 0 rfl rfl 0 (by decide) tyX6 tyX6_ok nmX6 (List.mem_of_getElem? (i := 1) rfl) rfl rfl (ty := .int) (v := .int (0 : Int32)) (by decide +kernel) rfl rfl (Nat.le_of_ble_eq_true rfl) (w2 := [(hm, .inr (6, [.int (0 : Int32), .ref m1, .ref m2, .ref m3, .ref m4, .ref m5, .int dr, .ref m7, .int (0 : Int32), .ref m9, .ref m10, .ref m11, .ref m12, .ref m13, .int rl, .ref m15, .ref m16, .ref m17]))]) rfl (fun _ h => h) dX6_otherwise_2 ?_
  refine g_iload_n B dX6_otherwise_5 1 rfl ?_
  refine g_callP (g_runS B (PM.met (r_isNode_f l (D := D) (cI := cI) (cL := cL) (cZ := cZ) a1 (by first | assumption | exact hy (by assumption) | exact hz (by assumption)))) (gPp.pre (av := [.int a1]) (wc := []) hK hN [] rfl (by decide)) gX6_otherwise_X6_isNode rfl kd_X6_isNode ⟨by decide, by decide⟩ (st := []) rfl (Nat.le_of_ble_eq_true rfl) dX6_otherwise_6 ⟨by decide, by decide⟩) (fun u hu => ?_)
  refine g_if_ne (tgt := 18) B dX6_otherwise_9 (by decide) (fun c2 => absurd (by decide) c2) (fun _ => ?_)
  refine g_aload_n B dX6_otherwise_12 0 rfl ?_
  refine g_iconst (v := (1 : Int32)) B dX6_otherwise_13 (by decide) ?_
  refine g_callW (w2 := (fun (_ : Unit) => [(hm, .inr (6, [.int (1 : Int32), .ref m1, .ref m2, .ref m3, .ref m4, .ref m5, .int dr, .ref m7, .int (0 : Int32), .ref m9, .ref m10, .ref m11, .ref m12, .ref m13, .int rl, .ref m15, .ref m16, .ref m17]))])) (g_runV (q0 := 0) (ci := 6) B hK rfl rfl (r_no l (D := D) (cI := cI) (cL := cL) (cZ := cZ) hm m1 m2 m3 m4 m5 m7 m9 m10 m11 m12 m13 m15 m16 m17 (0 : Int32) dr (0 : Int32) rl (1 : Int32) ) (gPw.pre (av := [.ref hm, .int (1 : Int32)]) (wc := [(hm, .inr (6, [.int (0 : Int32), .ref m1, .ref m2, .ref m3, .ref m4, .ref m5, .int dr, .ref m7, .int (0 : Int32), .ref m9, .ref m10, .ref m11, .ref m12, .ref m13, .int rl, .ref m15, .ref m16, .ref m17]))]) hK hN [0] rfl (by decide)) gX6_otherwise_X6_no rfl rfl kd_X6_no ⟨by decide, by decide⟩ (st := []) rfl (Nat.le_of_ble_eq_true rfl) dX6_otherwise_14 ⟨by decide, by decide⟩) hA (fun _ h => h) [0] [] (wr := []) rfl rfl (by decide) (by decide) [0] (by decide) (fun _ => rfl) (fun u hu => ?_)
  exact g_iret_w B hr rfl hlocks () (rfl) (trivial) [0] (by decide) rfl dX6_otherwise_17

set_option maxHeartbeats 4000000 in
set_option maxRecDepth 100000 in
theorem r_otherwise_x1 (l : Launch) {D : va_G} {cI cL cZ : ClassId} (hm : Nat) (m1 : Nat) (m2 : Nat) (m3 : Nat) (m4 : Nat) (m5 : Nat) (m7 : Nat) (m9 : Nat) (m10 : Nat) (m11 : Nat) (m12 : Nat) (m13 : Nat) (m15 : Nat) (m16 : Nat) (m17 : Nat) (th : Int32) (dr : Int32) (rl : Int32) (a1 : Int32) (a2 : Int32) (a3 : Int32) (h_a1 : inR a1 0 11 = true) (h_a2 : inR a2 0 2 = false) : WM l yX6_otherwise wsX6_otherwise ({ frames := 2, cells := 0, slots := 0, locals := 42 } : Room) D (gTys cI cL cZ) [.ref hm, .int a1, .int a2, .int a3] [(hm, .inr (6, [.int th, .ref m1, .ref m2, .ref m3, .ref m4, .ref m5, .int dr, .ref m7, .int (0 : Int32), .ref m9, .ref m10, .ref m11, .ref m12, .ref m13, .int rl, .ref m15, .ref m16, .ref m17]))] (fun (_ : Unit) => True) (fun (_ : Unit) => some (.int (0 : Int32))) (fun (_ : Unit) => [(hm, .inr (6, [.int (2 : Int32), .ref m1, .ref m2, .ref m3, .ref m4, .ref m5, .int dr, .ref m7, .int (0 : Int32), .ref m9, .ref m10, .ref m11, .ref m12, .ref m13, .int rl, .ref m15, .ref m16, .ref m17]))]) := by
  refine WM.ofG cX6_otherwise 8 (some .int) (by decide +kernel) rfl (Nat.le_of_ble_eq_true rfl) ?_
  intro p e s m below meth c A hA B hr hlocks hname hK hN
  refine g_aload_n B dX6_otherwise_0 0 rfl ?_
  refine g_iconst (v := (0 : Int32)) B dX6_otherwise_1 (by decide) ?_
  refine g_put (C := RX6) (T := TX6) (N := 18) (ci := 6) B hK hin_X6_otherwise_RX6 0 rfl rfl 0 (by decide) tyX6 tyX6_ok nmX6 (List.mem_of_getElem? (i := 1) rfl) rfl rfl (ty := .int) (v := .int (0 : Int32)) (by decide +kernel) rfl rfl (Nat.le_of_ble_eq_true rfl) (w2 := [(hm, .inr (6, [.int (0 : Int32), .ref m1, .ref m2, .ref m3, .ref m4, .ref m5, .int dr, .ref m7, .int (0 : Int32), .ref m9, .ref m10, .ref m11, .ref m12, .ref m13, .int rl, .ref m15, .ref m16, .ref m17]))]) rfl (fun _ h => h) dX6_otherwise_2 ?_
  refine g_iload_n B dX6_otherwise_5 1 rfl ?_
  refine g_callP (g_runS B (PM.met (r_isNode_t l (D := D) (cI := cI) (cL := cL) (cZ := cZ) a1 (by first | assumption | exact hy (by assumption) | exact hz (by assumption)))) (gPp.pre (av := [.int a1]) (wc := []) hK hN [] rfl (by decide)) gX6_otherwise_X6_isNode rfl kd_X6_isNode ⟨by decide, by decide⟩ (st := []) rfl (Nat.le_of_ble_eq_true rfl) dX6_otherwise_6 ⟨by decide, by decide⟩) (fun u hu => ?_)
  refine g_if_ne (tgt := 18) B dX6_otherwise_9 (by decide) (fun _ => ?_) (fun c2 => absurd c2 (by decide))
  refine g_iload_n B dX6_otherwise_18 2 rfl ?_
  refine g_iconst (v := (0 : Int32)) B dX6_otherwise_19 (by decide) ?_
  refine g_iconst (v := (2 : Int32)) B dX6_otherwise_20 (by decide) ?_
  refine g_callP (g_runS B (PM.met (r_isIn_f l (D := D) (cI := cI) (cL := cL) (cZ := cZ) a2 (0 : Int32) (2 : Int32) (by first | assumption | exact hy (by assumption) | exact hz (by assumption)))) (gPp.pre (av := [.int a2, .int (0 : Int32), .int (2 : Int32)]) (wc := []) hK hN [] rfl (by decide)) gX6_otherwise_X6_isIn rfl kd_X6_isIn ⟨by decide, by decide⟩ (st := []) rfl (Nat.le_of_ble_eq_true rfl) dX6_otherwise_21 ⟨by decide, by decide⟩) (fun u hu => ?_)
  refine g_if_eq (tgt := 37) B dX6_otherwise_24 (by decide) (fun _ => ?_) (fun c4 => absurd (by decide) c4)
  refine g_aload_n B dX6_otherwise_37 0 rfl ?_
  refine g_iconst (v := (2 : Int32)) B dX6_otherwise_38 (by decide) ?_
  refine g_callW (w2 := (fun (_ : Unit) => [(hm, .inr (6, [.int (2 : Int32), .ref m1, .ref m2, .ref m3, .ref m4, .ref m5, .int dr, .ref m7, .int (0 : Int32), .ref m9, .ref m10, .ref m11, .ref m12, .ref m13, .int rl, .ref m15, .ref m16, .ref m17]))])) (g_runV (q0 := 0) (ci := 6) B hK rfl rfl (r_no l (D := D) (cI := cI) (cL := cL) (cZ := cZ) hm m1 m2 m3 m4 m5 m7 m9 m10 m11 m12 m13 m15 m16 m17 (0 : Int32) dr (0 : Int32) rl (2 : Int32) ) (gPw.pre (av := [.ref hm, .int (2 : Int32)]) (wc := [(hm, .inr (6, [.int (0 : Int32), .ref m1, .ref m2, .ref m3, .ref m4, .ref m5, .int dr, .ref m7, .int (0 : Int32), .ref m9, .ref m10, .ref m11, .ref m12, .ref m13, .int rl, .ref m15, .ref m16, .ref m17]))]) hK hN [0] rfl (by decide)) gX6_otherwise_X6_no rfl rfl kd_X6_no ⟨by decide, by decide⟩ (st := []) rfl (Nat.le_of_ble_eq_true rfl) dX6_otherwise_39 ⟨by decide, by decide⟩) hA (fun _ h => h) [0] [] (wr := []) rfl rfl (by decide) (by decide) [0] (by decide) (fun _ => rfl) (fun u hu => ?_)
  exact g_iret_w B hr rfl hlocks () (rfl) (trivial) [0] (by decide) rfl dX6_otherwise_42

set_option maxHeartbeats 4000000 in
set_option maxRecDepth 100000 in
theorem r_otherwise_x2 (l : Launch) {D : va_G} {cI cL cZ : ClassId} (hm : Nat) (m1 : Nat) (m2 : Nat) (m3 : Nat) (m4 : Nat) (m5 : Nat) (m7 : Nat) (m9 : Nat) (m10 : Nat) (m11 : Nat) (m12 : Nat) (m13 : Nat) (m15 : Nat) (m16 : Nat) (m17 : Nat) (th : Int32) (dr : Int32) (rl : Int32) (a1 : Int32) (a2 : Int32) (a3 : Int32) (h_a1 : inR a1 0 11 = true) (h_a2 : inR a2 0 2 = true) (h_a3 : inR a3 0 9 = false) : WM l yX6_otherwise wsX6_otherwise ({ frames := 2, cells := 0, slots := 0, locals := 42 } : Room) D (gTys cI cL cZ) [.ref hm, .int a1, .int a2, .int a3] [(hm, .inr (6, [.int th, .ref m1, .ref m2, .ref m3, .ref m4, .ref m5, .int dr, .ref m7, .int (0 : Int32), .ref m9, .ref m10, .ref m11, .ref m12, .ref m13, .int rl, .ref m15, .ref m16, .ref m17]))] (fun (_ : Unit) => True) (fun (_ : Unit) => some (.int (0 : Int32))) (fun (_ : Unit) => [(hm, .inr (6, [.int (2 : Int32), .ref m1, .ref m2, .ref m3, .ref m4, .ref m5, .int dr, .ref m7, .int (0 : Int32), .ref m9, .ref m10, .ref m11, .ref m12, .ref m13, .int rl, .ref m15, .ref m16, .ref m17]))]) := by
  refine WM.ofG cX6_otherwise 8 (some .int) (by decide +kernel) rfl (Nat.le_of_ble_eq_true rfl) ?_
  intro p e s m below meth c A hA B hr hlocks hname hK hN
  refine g_aload_n B dX6_otherwise_0 0 rfl ?_
  refine g_iconst (v := (0 : Int32)) B dX6_otherwise_1 (by decide) ?_
  refine g_put (C := RX6) (T := TX6) (N := 18) (ci := 6) B hK hin_X6_otherwise_RX6 0 rfl rfl 0 (by decide) tyX6 tyX6_ok nmX6 (List.mem_of_getElem? (i := 1) rfl) rfl rfl (ty := .int) (v := .int (0 : Int32)) (by decide +kernel) rfl rfl (Nat.le_of_ble_eq_true rfl) (w2 := [(hm, .inr (6, [.int (0 : Int32), .ref m1, .ref m2, .ref m3, .ref m4, .ref m5, .int dr, .ref m7, .int (0 : Int32), .ref m9, .ref m10, .ref m11, .ref m12, .ref m13, .int rl, .ref m15, .ref m16, .ref m17]))]) rfl (fun _ h => h) dX6_otherwise_2 ?_
  refine g_iload_n B dX6_otherwise_5 1 rfl ?_
  refine g_callP (g_runS B (PM.met (r_isNode_t l (D := D) (cI := cI) (cL := cL) (cZ := cZ) a1 (by first | assumption | exact hy (by assumption) | exact hz (by assumption)))) (gPp.pre (av := [.int a1]) (wc := []) hK hN [] rfl (by decide)) gX6_otherwise_X6_isNode rfl kd_X6_isNode ⟨by decide, by decide⟩ (st := []) rfl (Nat.le_of_ble_eq_true rfl) dX6_otherwise_6 ⟨by decide, by decide⟩) (fun u hu => ?_)
  refine g_if_ne (tgt := 18) B dX6_otherwise_9 (by decide) (fun _ => ?_) (fun c2 => absurd c2 (by decide))
  refine g_iload_n B dX6_otherwise_18 2 rfl ?_
  refine g_iconst (v := (0 : Int32)) B dX6_otherwise_19 (by decide) ?_
  refine g_iconst (v := (2 : Int32)) B dX6_otherwise_20 (by decide) ?_
  refine g_callP (g_runS B (PM.met (r_isIn_t l (D := D) (cI := cI) (cL := cL) (cZ := cZ) a2 (0 : Int32) (2 : Int32) (by first | assumption | exact hy (by assumption) | exact hz (by assumption)))) (gPp.pre (av := [.int a2, .int (0 : Int32), .int (2 : Int32)]) (wc := []) hK hN [] rfl (by decide)) gX6_otherwise_X6_isIn rfl kd_X6_isIn ⟨by decide, by decide⟩ (st := []) rfl (Nat.le_of_ble_eq_true rfl) dX6_otherwise_21 ⟨by decide, by decide⟩) (fun u hu => ?_)
  refine g_if_eq (tgt := 37) B dX6_otherwise_24 (by decide) (fun c4 => absurd c4 (by decide)) (fun _ => ?_)
  refine g_iload_n B dX6_otherwise_27 3 rfl ?_
  refine g_iconst (v := (0 : Int32)) B dX6_otherwise_28 (by decide) ?_
  refine g_bipush (v := (9 : Int32)) B dX6_otherwise_29 (by decide) ?_
  refine g_callP (g_runS B (PM.met (r_isIn_f l (D := D) (cI := cI) (cL := cL) (cZ := cZ) a3 (0 : Int32) (9 : Int32) (by first | assumption | exact hy (by assumption) | exact hz (by assumption)))) (gPp.pre (av := [.int a3, .int (0 : Int32), .int (9 : Int32)]) (wc := []) hK hN [] rfl (by decide)) gX6_otherwise_X6_isIn rfl kd_X6_isIn ⟨by decide, by decide⟩ (st := []) rfl (Nat.le_of_ble_eq_true rfl) dX6_otherwise_31 ⟨by decide, by decide⟩) (fun u hu => ?_)
  refine g_if_ne (tgt := 43) B dX6_otherwise_34 (by decide) (fun c6 => absurd (by decide) c6) (fun _ => ?_)
  refine g_aload_n B dX6_otherwise_37 0 rfl ?_
  refine g_iconst (v := (2 : Int32)) B dX6_otherwise_38 (by decide) ?_
  refine g_callW (w2 := (fun (_ : Unit) => [(hm, .inr (6, [.int (2 : Int32), .ref m1, .ref m2, .ref m3, .ref m4, .ref m5, .int dr, .ref m7, .int (0 : Int32), .ref m9, .ref m10, .ref m11, .ref m12, .ref m13, .int rl, .ref m15, .ref m16, .ref m17]))])) (g_runV (q0 := 0) (ci := 6) B hK rfl rfl (r_no l (D := D) (cI := cI) (cL := cL) (cZ := cZ) hm m1 m2 m3 m4 m5 m7 m9 m10 m11 m12 m13 m15 m16 m17 (0 : Int32) dr (0 : Int32) rl (2 : Int32) ) (gPw.pre (av := [.ref hm, .int (2 : Int32)]) (wc := [(hm, .inr (6, [.int (0 : Int32), .ref m1, .ref m2, .ref m3, .ref m4, .ref m5, .int dr, .ref m7, .int (0 : Int32), .ref m9, .ref m10, .ref m11, .ref m12, .ref m13, .int rl, .ref m15, .ref m16, .ref m17]))]) hK hN [0] rfl (by decide)) gX6_otherwise_X6_no rfl rfl kd_X6_no ⟨by decide, by decide⟩ (st := []) rfl (Nat.le_of_ble_eq_true rfl) dX6_otherwise_39 ⟨by decide, by decide⟩) hA (fun _ h => h) [0] [] (wr := []) rfl rfl (by decide) (by decide) [0] (by decide) (fun _ => rfl) (fun u hu => ?_)
  exact g_iret_w B hr rfl hlocks () (rfl) (trivial) [0] (by decide) rfl dX6_otherwise_42

set_option maxHeartbeats 4000000 in
set_option maxRecDepth 100000 in
theorem r_otherwise_v (l : Launch) {D : va_G} {cI cL cZ : ClassId} (hm : Nat) (m1 : Nat) (m2 : Nat) (m3 : Nat) (m4 : Nat) (m5 : Nat) (m7 : Nat) (m9 : Nat) (m10 : Nat) (m11 : Nat) (m12 : Nat) (m13 : Nat) (m15 : Nat) (m16 : Nat) (m17 : Nat) (th : Int32) (dr : Int32) (rl : Int32) (a1 : Nat) (a2 : Int32) (a3 : Int32) (h1 : a1 < 12) (h2 : inR a2 0 2 = true) (h3 : inR a3 0 9 = true) : WM l yX6_otherwise wsX6_otherwise ({ frames := 2, cells := 0, slots := 0, locals := 42 } : Room) D (gTys cI cL cZ) [.ref hm, .int (nI a1), .int a2, .int a3] [(hm, .inr (6, [.int th, .ref m1, .ref m2, .ref m3, .ref m4, .ref m5, .int dr, .ref m7, .int (0 : Int32), .ref m9, .ref m10, .ref m11, .ref m12, .ref m13, .int rl, .ref m15, .ref m16, .ref m17])), (m2, .inl (cI, 12, .inl (fun _ => (0 : Int32)))), (m3, .inl (cI, 12, .inl (fun _ => (0 : Int32))))] (fun (_ : Unit) => True) (fun (_ : Unit) => some (.int (0 : Int32))) (fun (_ : Unit) => [(hm, .inr (6, [.int (0 : Int32), .ref m1, .ref m2, .ref m3, .ref m4, .ref m5, .int dr, .ref m7, .int (0 : Int32), .ref m9, .ref m10, .ref m11, .ref m12, .ref m13, .int rl, .ref m15, .ref m16, .ref m17]))]) := by
  refine WM.ofG cX6_otherwise 8 (some .int) (by decide +kernel) rfl (Nat.le_of_ble_eq_true rfl) ?_
  intro p e s m below meth c A hA B hr hlocks hname hK hN
  refine g_aload_n B dX6_otherwise_0 0 rfl ?_
  refine g_iconst (v := (0 : Int32)) B dX6_otherwise_1 (by decide) ?_
  refine g_put (C := RX6) (T := TX6) (N := 18) (ci := 6) B hK hin_X6_otherwise_RX6 0 rfl rfl 0 (by decide) tyX6 tyX6_ok nmX6 (List.mem_of_getElem? (i := 1) rfl) rfl rfl (ty := .int) (v := .int (0 : Int32)) (by decide +kernel) rfl rfl (Nat.le_of_ble_eq_true rfl) (w2 := [(hm, .inr (6, [.int (0 : Int32), .ref m1, .ref m2, .ref m3, .ref m4, .ref m5, .int dr, .ref m7, .int (0 : Int32), .ref m9, .ref m10, .ref m11, .ref m12, .ref m13, .int rl, .ref m15, .ref m16, .ref m17])), (m2, .inl (cI, 12, .inl (fun _ => (0 : Int32)))), (m3, .inl (cI, 12, .inl (fun _ => (0 : Int32))))]) rfl (fun _ h => h) dX6_otherwise_2 ?_
  refine g_iload_n B dX6_otherwise_5 1 rfl ?_
  refine g_callP (g_runS B (PM.met (r_isNode_n l (D := D) (cI := cI) (cL := cL) (cZ := cZ) a1 (by omega))) (gPp.pre (av := [.int (nI a1)]) (wc := []) hK hN [] rfl (by decide)) gX6_otherwise_X6_isNode rfl kd_X6_isNode ⟨by decide, by decide⟩ (st := []) rfl (Nat.le_of_ble_eq_true rfl) dX6_otherwise_6 ⟨by decide, by decide⟩) (fun u hu => ?_)
  refine g_if_ne (tgt := 18) B dX6_otherwise_9 (by decide) (fun _ => ?_) (fun c2 => absurd c2 (by decide))
  refine g_iload_n B dX6_otherwise_18 2 rfl ?_
  refine g_iconst (v := (0 : Int32)) B dX6_otherwise_19 (by decide) ?_
  refine g_iconst (v := (2 : Int32)) B dX6_otherwise_20 (by decide) ?_
  refine g_callP (g_runS B (PM.met (r_isIn_t l (D := D) (cI := cI) (cL := cL) (cZ := cZ) a2 (0 : Int32) (2 : Int32) (by first | assumption | exact hy (by assumption) | exact hz (by assumption)))) (gPp.pre (av := [.int a2, .int (0 : Int32), .int (2 : Int32)]) (wc := []) hK hN [] rfl (by decide)) gX6_otherwise_X6_isIn rfl kd_X6_isIn ⟨by decide, by decide⟩ (st := []) rfl (Nat.le_of_ble_eq_true rfl) dX6_otherwise_21 ⟨by decide, by decide⟩) (fun u hu => ?_)
  refine g_if_eq (tgt := 37) B dX6_otherwise_24 (by decide) (fun c4 => absurd c4 (by decide)) (fun _ => ?_)
  refine g_iload_n B dX6_otherwise_27 3 rfl ?_
  refine g_iconst (v := (0 : Int32)) B dX6_otherwise_28 (by decide) ?_
  refine g_bipush (v := (9 : Int32)) B dX6_otherwise_29 (by decide) ?_
  refine g_callP (g_runS B (PM.met (r_isIn_t l (D := D) (cI := cI) (cL := cL) (cZ := cZ) a3 (0 : Int32) (9 : Int32) (by first | assumption | exact hy (by assumption) | exact hz (by assumption)))) (gPp.pre (av := [.int a3, .int (0 : Int32), .int (9 : Int32)]) (wc := []) hK hN [] rfl (by decide)) gX6_otherwise_X6_isIn rfl kd_X6_isIn ⟨by decide, by decide⟩ (st := []) rfl (Nat.le_of_ble_eq_true rfl) dX6_otherwise_31 ⟨by decide, by decide⟩) (fun u hu => ?_)
  refine g_if_ne (tgt := 43) B dX6_otherwise_34 (by decide) (fun _ => ?_) (fun c6 => absurd c6 (by decide))
  refine g_aload_n B dX6_otherwise_43 0 rfl ?_
  refine g_get (C := RX6) (T := TX6) (N := 18) (ci := 6) B hK hin_X6_otherwise_RX6 0 rfl rfl 2 (by decide) (List.mem_of_getElem? (i := 2) rfl) rfl (v := .ref m2) rfl dX6_otherwise_44 ?_
  refine g_iload_n B dX6_otherwise_47 1 rfl ?_
  refine g_iald B hK 1 0 rfl rfl a1 rfl (by omega) (by omega) (v := (0 : Int32)) rfl dX6_otherwise_48 ?_
  refine g_istore (lv' := [(0, .ref hm), (1, .int (nI a1)), (2, .int a2), (3, .int a3), (4, .int (0 : Int32))]) B dX6_otherwise_49 (by decide) [1, 2, 3, 4, 0] rfl ?_
  refine g_aload_n B dX6_otherwise_51 0 rfl ?_
  refine g_get (C := RX6) (T := TX6) (N := 18) (ci := 6) B hK hin_X6_otherwise_RX6 0 rfl rfl 3 (by decide) (List.mem_of_getElem? (i := 3) rfl) rfl (v := .ref m3) rfl dX6_otherwise_52 ?_
  refine g_iload_n B dX6_otherwise_55 1 rfl ?_
  refine g_iald B hK 2 0 rfl rfl a1 rfl (by omega) (by omega) (v := (0 : Int32)) rfl dX6_otherwise_56 ?_
  refine g_istore (lv' := [(0, .ref hm), (1, .int (nI a1)), (2, .int a2), (3, .int a3), (4, .int (0 : Int32)), (5, .int (0 : Int32))]) B dX6_otherwise_57 (by decide) [1, 2, 3, 4, 5, 0] rfl ?_
  refine g_aload_n B dX6_otherwise_59 0 rfl ?_
  refine g_get (C := RX6) (T := TX6) (N := 18) (ci := 6) B hK hin_X6_otherwise_RX6 0 rfl rfl 2 (by decide) (List.mem_of_getElem? (i := 2) rfl) rfl (v := .ref m2) rfl dX6_otherwise_60 ?_
  refine g_iload_n B dX6_otherwise_63 1 rfl ?_
  refine g_iload_n B dX6_otherwise_64 2 rfl ?_
  refine g_iast B hK 1 0 rfl rfl a1 rfl (by omega) (by omega) (f2 := (upd (fun _ => (0 : Int32)) a1 a2)) (rfl) (w2 := [(hm, .inr (6, [.int (0 : Int32), .ref m1, .ref m2, .ref m3, .ref m4, .ref m5, .int dr, .ref m7, .int (0 : Int32), .ref m9, .ref m10, .ref m11, .ref m12, .ref m13, .int rl, .ref m15, .ref m16, .ref m17])), (m2, .inl (cI, 12, .inl (upd (fun _ => (0 : Int32)) a1 a2))), (m3, .inl (cI, 12, .inl (fun _ => (0 : Int32))))]) rfl (fun _ h => h) dX6_otherwise_65 ?_
  refine g_aload_n B dX6_otherwise_66 0 rfl ?_
  refine g_get (C := RX6) (T := TX6) (N := 18) (ci := 6) B hK hin_X6_otherwise_RX6 0 rfl rfl 3 (by decide) (List.mem_of_getElem? (i := 3) rfl) rfl (v := .ref m3) rfl dX6_otherwise_67 ?_
  refine g_iload_n B dX6_otherwise_70 1 rfl ?_
  refine g_iload_n B dX6_otherwise_71 3 rfl ?_
  refine g_iast B hK 2 0 rfl rfl a1 rfl (by omega) (by omega) (f2 := (upd (fun _ => (0 : Int32)) a1 a3)) (rfl) (w2 := [(hm, .inr (6, [.int (0 : Int32), .ref m1, .ref m2, .ref m3, .ref m4, .ref m5, .int dr, .ref m7, .int (0 : Int32), .ref m9, .ref m10, .ref m11, .ref m12, .ref m13, .int rl, .ref m15, .ref m16, .ref m17])), (m2, .inl (cI, 12, .inl (upd (fun _ => (0 : Int32)) a1 a2))), (m3, .inl (cI, 12, .inl (upd (fun _ => (0 : Int32)) a1 a3)))]) rfl (fun _ h => h) dX6_otherwise_72 ?_
  refine g_iconst (v := (0 : Int32)) B dX6_otherwise_73 (by decide) ?_
  refine g_istore (lv' := [(0, .ref hm), (1, .int (nI a1)), (2, .int a2), (3, .int a3), (4, .int (0 : Int32)), (5, .int (0 : Int32)), (6, .int (0 : Int32))]) B dX6_otherwise_74 (by decide) [1, 2, 3, 4, 5, 6, 0] rfl ?_
  refine g_iconst (v := (0 : Int32)) B dX6_otherwise_76 (by decide) ?_
  refine g_istore (lv' := [(0, .ref hm), (1, .int (nI a1)), (2, .int a2), (3, .int a3), (4, .int (0 : Int32)), (5, .int (0 : Int32)), (6, .int (0 : Int32)), (7, .int (0 : Int32))]) B dX6_otherwise_77 (by decide) [1, 2, 3, 4, 5, 6, 7, 0] rfl ?_
  refine g_iload B dX6_otherwise_79 7 rfl ?_
  refine g_aload_n B dX6_otherwise_81 0 rfl ?_
  refine g_get (C := RX6) (T := TX6) (N := 18) (ci := 6) B hK hin_X6_otherwise_RX6 0 rfl rfl 8 (by decide) (List.mem_of_getElem? (i := 4) rfl) rfl (v := .int (0 : Int32)) rfl dX6_otherwise_82 ?_
  refine g_icmp_ge (tgt := 125) B dX6_otherwise_85 (by decide) (fun _ => ?_) (fun c7 => absurd (by decide) c7)
  refine g_aload_n B dX6_otherwise_125 0 rfl ?_
  refine g_get (C := RX6) (T := TX6) (N := 18) (ci := 6) B hK hin_X6_otherwise_RX6 0 rfl rfl 2 (by decide) (List.mem_of_getElem? (i := 2) rfl) rfl (v := .ref m2) rfl dX6_otherwise_126 ?_
  refine g_iload_n B dX6_otherwise_129 1 rfl ?_
  refine g_iload B dX6_otherwise_130 4 rfl ?_
  refine g_iast B hK 1 0 rfl rfl a1 rfl (by omega) (by omega) (f2 := (upd (upd (fun _ => (0 : Int32)) a1 a2) a1 (0 : Int32))) (rfl) (w2 := [(hm, .inr (6, [.int (0 : Int32), .ref m1, .ref m2, .ref m3, .ref m4, .ref m5, .int dr, .ref m7, .int (0 : Int32), .ref m9, .ref m10, .ref m11, .ref m12, .ref m13, .int rl, .ref m15, .ref m16, .ref m17])), (m2, .inl (cI, 12, .inl (upd (upd (fun _ => (0 : Int32)) a1 a2) a1 (0 : Int32)))), (m3, .inl (cI, 12, .inl (upd (fun _ => (0 : Int32)) a1 a3)))]) rfl (fun _ h => h) dX6_otherwise_132 ?_
  refine g_aload_n B dX6_otherwise_133 0 rfl ?_
  refine g_get (C := RX6) (T := TX6) (N := 18) (ci := 6) B hK hin_X6_otherwise_RX6 0 rfl rfl 3 (by decide) (List.mem_of_getElem? (i := 3) rfl) rfl (v := .ref m3) rfl dX6_otherwise_134 ?_
  refine g_iload_n B dX6_otherwise_137 1 rfl ?_
  refine g_iload B dX6_otherwise_138 5 rfl ?_
  refine g_iast B hK 2 0 rfl rfl a1 rfl (by omega) (by omega) (f2 := (upd (upd (fun _ => (0 : Int32)) a1 a3) a1 (0 : Int32))) (rfl) (w2 := [(hm, .inr (6, [.int (0 : Int32), .ref m1, .ref m2, .ref m3, .ref m4, .ref m5, .int dr, .ref m7, .int (0 : Int32), .ref m9, .ref m10, .ref m11, .ref m12, .ref m13, .int rl, .ref m15, .ref m16, .ref m17])), (m2, .inl (cI, 12, .inl (upd (upd (fun _ => (0 : Int32)) a1 a2) a1 (0 : Int32)))), (m3, .inl (cI, 12, .inl (upd (upd (fun _ => (0 : Int32)) a1 a3) a1 (0 : Int32))))]) rfl (fun _ h => h) dX6_otherwise_140 ?_
  refine g_iload B dX6_otherwise_141 6 rfl ?_
  exact g_iret_w B hr rfl hlocks () (rfl) (trivial) [0] (by decide) rfl dX6_otherwise_143

set_option maxHeartbeats 4000000 in
set_option maxRecDepth 100000 in
theorem r_fewestNow (l : Launch) {D : va_G} {cI cL cZ : ClassId} (hm : Nat) (m1 : Nat) (m2 : Nat) (m3 : Nat) (m4 : Nat) (m5 : Nat) (m7 : Nat) (m9 : Nat) (m10 : Nat) (m11 : Nat) (m12 : Nat) (m13 : Nat) (m15 : Nat) (m16 : Nat) (m17 : Nat) (th : Int32) (dr : Int32) (rl : Int32)  : PM l yX6_fewestNow wsX6_fewestNow ({ frames := 1, cells := 0, slots := 0, locals := 22 } : Room) D (gTys cI cL cZ) [.ref hm] [(hm, .inr (6, [.int th, .ref m1, .ref m2, .ref m3, .ref m4, .ref m5, .int dr, .ref m7, .int (0 : Int32), .ref m9, .ref m10, .ref m11, .ref m12, .ref m13, .int rl, .ref m15, .ref m16, .ref m17]))] (fun (_ : Unit) => True) (fun (_ : Unit) => some (.int (0 : Int32))) := by
  refine PM.ofG cX6_fewestNow 6 (some .int) (by decide +kernel) rfl (Nat.le_of_ble_eq_true rfl) ?_
  intro p e s m below meth c B hr hlocks hname hK hN
  refine g_aload_n B dX6_fewestNow_0 0 rfl ?_
  refine g_get (C := RX6) (T := TX6) (N := 18) (ci := 6) B hK hin_X6_fewestNow_RX6 0 rfl rfl 8 (by decide) (List.mem_of_getElem? (i := 1) rfl) rfl (v := .int (0 : Int32)) rfl dX6_fewestNow_1 ?_
  refine g_bipush (v := (12 : Int32)) B dX6_fewestNow_4 (by decide) ?_
  refine g_icmp_le (tgt := 11) B dX6_fewestNow_6 (by decide) (fun _ => ?_) (fun c1 => absurd (by decide) c1)
  refine g_aload_n B dX6_fewestNow_11 0 rfl ?_
  refine g_callP (g_runV (q0 := 0) (ci := 6) B hK rfl rfl (PM.met (r_knownEdges_0 l (D := D) (cI := cI) (cL := cL) (cZ := cZ) hm m1 m2 m3 m4 m5 m7 m9 m10 m11 m12 m13 m15 m16 m17 th dr rl )) (gPp.pre (av := [.ref hm]) (wc := [(hm, .inr (6, [.int th, .ref m1, .ref m2, .ref m3, .ref m4, .ref m5, .int dr, .ref m7, .int (0 : Int32), .ref m9, .ref m10, .ref m11, .ref m12, .ref m13, .int rl, .ref m15, .ref m16, .ref m17]))]) hK hN [0] rfl (by decide)) gX6_fewestNow_X6_knownEdges rfl rfl kd_X6_knownEdges ⟨by decide, by decide⟩ (st := []) rfl (Nat.le_of_ble_eq_true rfl) dX6_fewestNow_12 ⟨by decide, by decide⟩) (fun u hu => ?_)
  refine g_istore_n (lv' := [(0, .ref hm), (1, .int (0 : Int32))]) B dX6_fewestNow_15 rfl (by decide) [1, 0] rfl ?_
  refine g_aload_n B dX6_fewestNow_16 0 rfl ?_
  refine g_get (C := RX6) (T := TX6) (N := 18) (ci := 6) B hK hin_X6_fewestNow_RX6 0 rfl rfl 8 (by decide) (List.mem_of_getElem? (i := 1) rfl) rfl (v := .int (0 : Int32)) rfl dX6_fewestNow_17 ?_
  refine g_istore_n (lv' := [(0, .ref hm), (1, .int (0 : Int32)), (2, .int (0 : Int32))]) B dX6_fewestNow_20 rfl (by decide) [1, 2, 0] rfl ?_
  refine g_iconst (v := (0 : Int32)) B dX6_fewestNow_21 (by decide) ?_
  refine g_istore_n (lv' := [(0, .ref hm), (1, .int (0 : Int32)), (2, .int (0 : Int32)), (3, .int (0 : Int32))]) B dX6_fewestNow_22 rfl (by decide) [1, 2, 3, 0] rfl ?_
  refine g_iload_n B dX6_fewestNow_23 3 rfl ?_
  refine g_iconst (v := (1 : Int32)) B dX6_fewestNow_24 (by decide) ?_
  refine g_aload_n B dX6_fewestNow_25 0 rfl ?_
  refine g_get (C := RX6) (T := TX6) (N := 18) (ci := 6) B hK hin_X6_fewestNow_RX6 0 rfl rfl 8 (by decide) (List.mem_of_getElem? (i := 1) rfl) rfl (v := .int (0 : Int32)) rfl dX6_fewestNow_26 ?_
  refine g_ishl (v := (1 : Int32)) B dX6_fewestNow_29 (by decide) ?_
  refine g_icmp_ge (tgt := 101) B dX6_fewestNow_30 (by decide) (fun c3 => absurd c3 (by decide)) (fun _ => ?_)
  refine g_iconst (v := (0 : Int32)) B dX6_fewestNow_33 (by decide) ?_
  refine g_istore (lv' := [(0, .ref hm), (1, .int (0 : Int32)), (2, .int (0 : Int32)), (3, .int (0 : Int32)), (4, .int (0 : Int32))]) B dX6_fewestNow_34 (by decide) [1, 2, 3, 4, 0] rfl ?_
  refine g_iconst (v := (0 : Int32)) B dX6_fewestNow_36 (by decide) ?_
  refine g_istore (lv' := [(0, .ref hm), (1, .int (0 : Int32)), (2, .int (0 : Int32)), (3, .int (0 : Int32)), (4, .int (0 : Int32)), (5, .int (0 : Int32))]) B dX6_fewestNow_37 (by decide) [1, 2, 3, 4, 5, 0] rfl ?_
  refine g_iload B dX6_fewestNow_39 5 rfl ?_
  refine g_aload_n B dX6_fewestNow_41 0 rfl ?_
  refine g_get (C := RX6) (T := TX6) (N := 18) (ci := 6) B hK hin_X6_fewestNow_RX6 0 rfl rfl 8 (by decide) (List.mem_of_getElem? (i := 1) rfl) rfl (v := .int (0 : Int32)) rfl dX6_fewestNow_42 ?_
  refine g_icmp_ge (tgt := 80) B dX6_fewestNow_45 (by decide) (fun _ => ?_) (fun c4 => absurd (by decide) c4)
  refine g_iload B dX6_fewestNow_80 4 rfl ?_
  refine g_iload_n B dX6_fewestNow_82 1 rfl ?_
  refine g_icmp_ne (tgt := 95) B dX6_fewestNow_83 (by decide) (fun c5 => absurd (by decide) c5) (fun _ => ?_)
  refine g_iload_n B dX6_fewestNow_86 2 rfl ?_
  refine g_iload_n B dX6_fewestNow_87 3 rfl ?_
  refine g_callP (g_runS B (PM.met (r_count_0 l (D := D) (cI := cI) (cL := cL) (cZ := cZ)  )) (gPp.pre (av := [.int (0 : Int32)]) (wc := []) hK hN [] rfl (by decide)) gX6_fewestNow_X6_count rfl kd_X6_count ⟨by decide, by decide⟩ (st := [.int (0 : Int32)]) rfl (Nat.le_of_ble_eq_true rfl) dX6_fewestNow_88 ⟨by decide, by decide⟩) (fun u hu => ?_)
  refine g_mmin (v := (0 : Int32)) B (List.mem_of_getElem? (i := 3) rfl) (List.mem_of_getElem? (i := 4) rfl) (List.mem_of_getElem? (i := 5) rfl) (List.mem_of_getElem? (i := 6) rfl) (by decide) (by decide) (by decide) (by decide) dX6_fewestNow_91 (by decide) ?_
  refine g_istore_n (lv' := [(0, .ref hm), (1, .int (0 : Int32)), (2, .int (0 : Int32)), (3, .int (0 : Int32)), (4, .int (0 : Int32)), (5, .int (0 : Int32))]) B dX6_fewestNow_94 rfl (by decide) [1, 2, 0, 3, 4, 5] rfl ?_
  refine g_iinc (lv' := [(0, .ref hm), (1, .int (0 : Int32)), (2, .int (0 : Int32)), (3, .int (1 : Int32)), (4, .int (0 : Int32)), (5, .int (0 : Int32))]) B dX6_fewestNow_95 3 rfl (by decide) (by decide) [1, 2, 3, 0, 4, 5] rfl ?_
  refine g_goto (tgt := 23) B dX6_fewestNow_98 (by decide) ?_
  refine g_iload_n B dX6_fewestNow_23 3 rfl ?_
  refine g_iconst (v := (1 : Int32)) B dX6_fewestNow_24 (by decide) ?_
  refine g_aload_n B dX6_fewestNow_25 0 rfl ?_
  refine g_get (C := RX6) (T := TX6) (N := 18) (ci := 6) B hK hin_X6_fewestNow_RX6 0 rfl rfl 8 (by decide) (List.mem_of_getElem? (i := 1) rfl) rfl (v := .int (0 : Int32)) rfl dX6_fewestNow_26 ?_
  refine g_ishl (v := (1 : Int32)) B dX6_fewestNow_29 (by decide) ?_
  refine g_icmp_ge (tgt := 101) B dX6_fewestNow_30 (by decide) (fun _ => ?_) (fun c7 => absurd (by decide) c7)
  refine g_iload_n B dX6_fewestNow_101 2 rfl ?_
  exact g_iret_p B hr rfl hlocks () (rfl) (trivial) dX6_fewestNow_102

set_option maxHeartbeats 4000000 in
set_option maxRecDepth 100000 in
theorem r_fewest_v (l : Launch) {D : va_G} {cI cL cZ : ClassId} (hm : Nat) (m1 : Nat) (m2 : Nat) (m3 : Nat) (m4 : Nat) (m5 : Nat) (m7 : Nat) (m9 : Nat) (m10 : Nat) (m11 : Nat) (m12 : Nat) (m13 : Nat) (m15 : Nat) (m16 : Nat) (m17 : Nat) (th : Int32) (dr : Int32) (rl : Int32)  : WM l yX6_fewest wsX6_fewest ({ frames := 2, cells := 0, slots := 0, locals := 47 } : Room) D (gTys cI cL cZ) [.ref hm] [(hm, .inr (6, [.int th, .ref m1, .ref m2, .ref m3, .ref m4, .ref m5, .int dr, .ref m7, .int (0 : Int32), .ref m9, .ref m10, .ref m11, .ref m12, .ref m13, .int rl, .ref m15, .ref m16, .ref m17]))] (fun (_ : Unit) => True) (fun (_ : Unit) => some (.int (0 : Int32))) (fun (_ : Unit) => [(hm, .inr (6, [.int (0 : Int32), .ref m1, .ref m2, .ref m3, .ref m4, .ref m5, .int dr, .ref m7, .int (0 : Int32), .ref m9, .ref m10, .ref m11, .ref m12, .ref m13, .int rl, .ref m15, .ref m16, .ref m17]))]) := by
  refine WM.ofG cX6_fewest 1 (some .int) (by decide +kernel) rfl (Nat.le_of_ble_eq_true rfl) ?_
  intro p e s m below meth c A hA B hr hlocks hname hK hN
  refine g_aload_n B dX6_fewest_0 0 rfl ?_
  refine g_iconst (v := (0 : Int32)) B dX6_fewest_1 (by decide) ?_
  refine g_put (C := RX6) (T := TX6) (N := 18) (ci := 6) B hK hin_X6_fewest_RX6 0 rfl rfl 0 (by decide) tyX6 tyX6_ok nmX6 (List.mem_of_getElem? (i := 1) rfl) rfl rfl (ty := .int) (v := .int (0 : Int32)) (by decide +kernel) rfl rfl (Nat.le_of_ble_eq_true rfl) (w2 := [(hm, .inr (6, [.int (0 : Int32), .ref m1, .ref m2, .ref m3, .ref m4, .ref m5, .int dr, .ref m7, .int (0 : Int32), .ref m9, .ref m10, .ref m11, .ref m12, .ref m13, .int rl, .ref m15, .ref m16, .ref m17]))]) rfl (fun _ h => h) dX6_fewest_2 ?_
  refine g_aload_n B dX6_fewest_5 0 rfl ?_
  refine g_callP (g_runV (q0 := 0) (ci := 6) B hK rfl rfl (PM.met (r_fewestNow l (D := D) (cI := cI) (cL := cL) (cZ := cZ) hm m1 m2 m3 m4 m5 m7 m9 m10 m11 m12 m13 m15 m16 m17 (0 : Int32) dr rl )) (gPp.pre (av := [.ref hm]) (wc := [(hm, .inr (6, [.int (0 : Int32), .ref m1, .ref m2, .ref m3, .ref m4, .ref m5, .int dr, .ref m7, .int (0 : Int32), .ref m9, .ref m10, .ref m11, .ref m12, .ref m13, .int rl, .ref m15, .ref m16, .ref m17]))]) hK hN [0] rfl (by decide)) gX6_fewest_X6_fewestNow rfl rfl kd_X6_fewestNow ⟨by decide, by decide⟩ (st := []) rfl (Nat.le_of_ble_eq_true rfl) dX6_fewest_6 ⟨by decide, by decide⟩) (fun u hu => ?_)
  exact g_iret_w B hr rfl hlocks () (rfl) (trivial) [0] (by decide) rfl dX6_fewest_9

