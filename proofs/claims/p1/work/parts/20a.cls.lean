/-! the class on a fresh object: trace, program -/
theorem kd_X2_follow : yX2_follow.cls ≠ "java/lang/invoke/MethodHandle" ∧ yX2_follow.cls ≠ "java/lang/invoke/VarHandle" ∧ (parseMethodDescriptor yX2_follow.desc).map (fun d => d.parameters.length) = some 2 := by decide +kernel
theorem kd_X2_isSo : yX2_isSo.cls ≠ "java/lang/invoke/MethodHandle" ∧ yX2_isSo.cls ≠ "java/lang/invoke/VarHandle" ∧ (parseMethodDescriptor yX2_isSo.desc).map (fun d => d.parameters.length) = some 2 := by decide +kernel
theorem kd_X4_begin : yX4_begin.cls ≠ "java/lang/invoke/MethodHandle" ∧ yX4_begin.cls ≠ "java/lang/invoke/VarHandle" ∧ (parseMethodDescriptor yX4_begin.desc).map (fun d => d.parameters.length) = some 0 := by decide +kernel
theorem kd_X4_goOver : yX4_goOver.cls ≠ "java/lang/invoke/MethodHandle" ∧ yX4_goOver.cls ≠ "java/lang/invoke/VarHandle" ∧ (parseMethodDescriptor yX4_goOver.desc).map (fun d => d.parameters.length) = some 1 := by decide +kernel
theorem kd_X5_bit : yX5_bit.cls ≠ "java/lang/invoke/MethodHandle" ∧ yX5_bit.cls ≠ "java/lang/invoke/VarHandle" ∧ (parseMethodDescriptor yX5_bit.desc).map (fun d => d.parameters.length) = some 1 := by decide +kernel
theorem kd_X5_contains : yX5_contains.cls ≠ "java/lang/invoke/MethodHandle" ∧ yX5_contains.cls ≠ "java/lang/invoke/VarHandle" ∧ (parseMethodDescriptor yX5_contains.desc).map (fun d => d.parameters.length) = some 2 := by decide +kernel
theorem kd_X5_isNode : yX5_isNode.cls ≠ "java/lang/invoke/MethodHandle" ∧ yX5_isNode.cls ≠ "java/lang/invoke/VarHandle" ∧ (parseMethodDescriptor yX5_isNode.desc).map (fun d => d.parameters.length) = some 1 := by decide +kernel
theorem kd_X5_valueOf : yX5_valueOf.cls ≠ "java/lang/invoke/MethodHandle" ∧ yX5_valueOf.cls ≠ "java/lang/invoke/VarHandle" ∧ (parseMethodDescriptor yX5_valueOf.desc).map (fun d => d.parameters.length) = some 2 := by decide +kernel
theorem hin_X2_follow_RX2 : ∀ z ∈ u_ws RX2 TX2 5, z ∈ wsX2_follow := by decide +kernel
theorem hin_X2_isSo_RX2 : ∀ z ∈ u_ws RX2 TX2 5, z ∈ wsX2_isSo := by decide +kernel
theorem hin_X2_reachableNodes_RX2 : ∀ z ∈ u_ws RX2 TX2 5, z ∈ wsX2_reachableNodes := by decide +kernel
theorem hin_X2_setBad_RX2 : ∀ z ∈ u_ws RX2 TX2 5, z ∈ wsX2_setBad := by decide +kernel
theorem hin_X2_setQuestion_RX2 : ∀ z ∈ u_ws RX2 TX2 5, z ∈ wsX2_setQuestion := by decide +kernel
theorem hin_X2_setTargets_RX2 : ∀ z ∈ u_ws RX2 TX2 5, z ∈ wsX2_setTargets := by decide +kernel
theorem hin_X4_begin_RX4 : ∀ z ∈ u_ws RX4 TX4 4, z ∈ wsX4_begin := by decide +kernel
theorem hin_X4_goOver_RX4 : ∀ z ∈ u_ws RX4 TX4 4, z ∈ wsX4_goOver := by decide +kernel
theorem hin_X5_resultOf_RX4 : ∀ z ∈ u_ws RX4 TX4 4, z ∈ wsX5_resultOf := by decide +kernel
theorem hin_X5_resultOf_RX5 : ∀ z ∈ u_ws RX5 TX5 5, z ∈ wsX5_resultOf := by decide +kernel
theorem in11 {v : Int32} (h : ¬ (12 : Int32) ≤ v) : v ≤ 11 := by
  have h2 := Int32.not_le.mp h
  rw [Int32.lt_iff_toInt_lt] at h2
  rw [Int32.le_iff_toInt_le]
  have e1 : (12 : Int32).toInt = 12 := by decide
  have e2 : (11 : Int32).toInt = 11 := by decide
  omega
set_option maxHeartbeats 4000000 in
set_option maxRecDepth 100000 in
theorem k_isNode_t (l : Launch) {D : va_G} {cI cL cZ : ClassId} (v1 : Int32) (h1 : inR v1 0 11 = true) : PM l yX5_isNode wsX5_isNode ({ frames := 0, cells := 0, slots := 0, locals := 0 } : Room) D (gTys cI cL cZ) [.int v1] [] (fun (_ : Unit) => True) (fun (_ : Unit) => some (.int (1 : Int32))) := by
  refine PM.ofG cX5_isNode 1 (some .boolean) (by decide +kernel) rfl (Nat.le_of_ble_eq_true rfl) ?_
  intro p e s m below meth c B hr hlocks hname hK hN
  simp only [inR, Bool.and_eq_true, decide_eq_true_eq] at h1
  refine g_iload_n B dX5_isNode_0 0 rfl ?_
  refine g_if_lt (tgt := 14) B dX5_isNode_1 (by decide) (fun c1 => ?_) (fun c1 => ?_)
  · exfalso; exact absurd h1.1 (Int32.not_le.mpr c1)
  refine g_iload_n B dX5_isNode_4 0 rfl ?_
  refine g_bipush (v := (12 : Int32)) B dX5_isNode_5 (by decide) ?_
  refine g_icmp_ge (tgt := 14) B dX5_isNode_7 (by decide) (fun c2 => ?_) (fun c2 => ?_)
  · exfalso; exact absurd (Int32.le_trans c2 h1.2) (by decide)
  refine g_iconst (v := (1 : Int32)) B dX5_isNode_10 (by decide) ?_
  refine g_goto (tgt := 15) B dX5_isNode_11 (by decide) ?_
  exact g_iret_p B hr rfl hlocks () (rfl) (trivial) dX5_isNode_15

set_option maxHeartbeats 4000000 in
set_option maxRecDepth 100000 in
theorem k_isNode_f (l : Launch) {D : va_G} {cI cL cZ : ClassId} (v1 : Int32) (h1 : inR v1 0 11 = false) : PM l yX5_isNode wsX5_isNode ({ frames := 0, cells := 0, slots := 0, locals := 0 } : Room) D (gTys cI cL cZ) [.int v1] [] (fun (_ : Unit) => True) (fun (_ : Unit) => some (.int (0 : Int32))) := by
  refine PM.ofG cX5_isNode 1 (some .boolean) (by decide +kernel) rfl (Nat.le_of_ble_eq_true rfl) ?_
  intro p e s m below meth c B hr hlocks hname hK hN
  refine g_iload_n B dX5_isNode_0 0 rfl ?_
  refine g_if_lt (tgt := 14) B dX5_isNode_1 (by decide) (fun c1 => ?_) (fun c1 => ?_)
  · refine g_iconst (v := (0 : Int32)) B dX5_isNode_14 (by decide) ?_
    exact g_iret_p B hr rfl hlocks () (rfl) (trivial) dX5_isNode_15
  · refine g_iload_n B dX5_isNode_4 0 rfl ?_
    refine g_bipush (v := (12 : Int32)) B dX5_isNode_5 (by decide) ?_
    refine g_icmp_ge (tgt := 14) B dX5_isNode_7 (by decide) (fun c2 => ?_) (fun c2 => ?_)
    rotate_left; · exfalso; simp [inR, Int32.not_lt.mp c1, in11 c2] at h1
    refine g_iconst (v := (0 : Int32)) B dX5_isNode_14 (by decide) ?_
    exact g_iret_p B hr rfl hlocks () (rfl) (trivial) dX5_isNode_15

set_option maxHeartbeats 4000000 in
set_option maxRecDepth 100000 in
theorem k_begin (l : Launch) {D : va_G} {cI cL cZ : ClassId} (ht : Nat) (t0 : Nat) (ts : Int32) (tr : Int32) (tf : Int64)  : WM l yX4_begin wsX4_begin ({ frames := 0, cells := 0, slots := 0, locals := 0 } : Room) D (gTys cI cL cZ) [.ref ht] [(ht, .inr (4, [.ref t0, .int ts, .int tr, .long tf]))] (fun (_ : Unit) => True) (fun (_ : Unit) => none) (fun (_ : Unit) => [(ht, .inr (4, [.ref t0, .int (0 : Int32), .int (-1 : Int32), .long (0 : Int64)]))]) := by
  refine WM.ofG cX4_begin 1 none (by decide +kernel) rfl (Nat.le_of_ble_eq_true rfl) ?_
  intro p e s m below meth c A hA B hr hlocks hname hK hN
  refine g_aload_n B dX4_begin_0 0 rfl ?_
  refine g_iconst (v := (0 : Int32)) B dX4_begin_1 (by decide) ?_
  refine g_put (C := RX4) (T := TX4) (N := 4) (ci := 4) B hK hin_X4_begin_RX4 0 rfl rfl 1 (by decide) tyX4 tyX4_ok nmX4 (List.mem_of_getElem? (i := 1) rfl) rfl rfl (ty := .int) (v := .int (0 : Int32)) (by decide +kernel) rfl rfl (Nat.le_of_ble_eq_true rfl) (w2 := [(ht, .inr (4, [.ref t0, .int (0 : Int32), .int tr, .long tf]))]) rfl (fun _ h => h) dX4_begin_2 ?_
  refine g_aload_n B dX4_begin_5 0 rfl ?_
  refine g_lconst (v := (0 : Int64)) B dX4_begin_6 rfl ?_
  refine g_put (C := RX4) (T := TX4) (N := 4) (ci := 4) B hK hin_X4_begin_RX4 0 rfl rfl 3 (by decide) tyX4 tyX4_ok nmX4 (List.mem_of_getElem? (i := 2) rfl) rfl rfl (ty := .long) (v := .long (0 : Int64)) (by decide +kernel) rfl rfl (Nat.le_of_ble_eq_true rfl) (w2 := [(ht, .inr (4, [.ref t0, .int (0 : Int32), .int tr, .long (0 : Int64)]))]) rfl (fun _ h => h) dX4_begin_7 ?_
  refine g_aload_n B dX4_begin_10 0 rfl ?_
  refine g_iconst (v := (-1 : Int32)) B dX4_begin_11 (by decide) ?_
  refine g_put (C := RX4) (T := TX4) (N := 4) (ci := 4) B hK hin_X4_begin_RX4 0 rfl rfl 2 (by decide) tyX4 tyX4_ok nmX4 (List.mem_of_getElem? (i := 3) rfl) rfl rfl (ty := .int) (v := .int (-1 : Int32)) (by decide +kernel) rfl rfl (Nat.le_of_ble_eq_true rfl) (w2 := [(ht, .inr (4, [.ref t0, .int (0 : Int32), .int (-1 : Int32), .long (0 : Int64)]))]) rfl (fun _ h => h) dX4_begin_12 ?_
  exact g_vret_w B hr hlocks () (rfl) (trivial) [0] (by decide) rfl dX4_begin_15

set_option maxHeartbeats 4000000 in
set_option maxRecDepth 100000 in
theorem k_goOver (l : Launch) {D : va_G} {cI cL cZ : ClassId} (ht : Nat) (t0 : Nat) (fp : Nat → Int32)  : WM l yX4_goOver wsX4_goOver ({ frames := 1, cells := 0, slots := 0, locals := 20 } : Room) D (gTys cI cL cZ) [.ref ht, .int (1 : Int32)] [(ht, .inr (4, [.ref t0, .int (0 : Int32), .int (-1 : Int32), .long (0 : Int64)])), (t0, .inl (cI, 30, .inl fp))] (fun (_ : Unit) => True) (fun (_ : Unit) => none) (fun (_ : Unit) => [(ht, .inr (4, [.ref t0, .int (1 : Int32), .int (1 : Int32), .long (2 : Int64)])), (t0, .inl (cI, 30, .inl (upd fp 0 (1 : Int32))))]) := by
  refine WM.ofG cX4_goOver 2 none (by decide +kernel) rfl (Nat.le_of_ble_eq_true rfl) ?_
  intro p e s m below meth c A hA B hr hlocks hname hK hN
  refine g_aload_n B dX4_goOver_0 0 rfl ?_
  refine g_get (C := RX4) (T := TX4) (N := 4) (ci := 4) B hK hin_X4_goOver_RX4 0 rfl rfl 1 (by decide) (List.mem_of_getElem? (i := 1) rfl) rfl (v := .int (0 : Int32)) rfl dX4_goOver_1 ?_
  refine g_bipush (v := (30 : Int32)) B dX4_goOver_4 (by decide) ?_
  refine g_icmp_ge (tgt := 29) B dX4_goOver_6 (by decide) (fun c1 => absurd c1 (by decide)) (fun _ => ?_)
  refine g_aload_n B dX4_goOver_9 0 rfl ?_
  refine g_get (C := RX4) (T := TX4) (N := 4) (ci := 4) B hK hin_X4_goOver_RX4 0 rfl rfl 0 (by decide) (List.mem_of_getElem? (i := 2) rfl) rfl (v := .ref t0) rfl dX4_goOver_10 ?_
  refine g_aload_n B dX4_goOver_13 0 rfl ?_
  refine g_get (C := RX4) (T := TX4) (N := 4) (ci := 4) B hK hin_X4_goOver_RX4 0 rfl rfl 1 (by decide) (List.mem_of_getElem? (i := 1) rfl) rfl (v := .int (0 : Int32)) rfl dX4_goOver_14 ?_
  refine g_iload_n B dX4_goOver_17 1 rfl ?_
  refine g_iast B hK 1 0 rfl rfl 0 rfl (by omega) (by omega) (f2 := (upd fp 0 (1 : Int32))) (rfl) (w2 := [(ht, .inr (4, [.ref t0, .int (0 : Int32), .int (-1 : Int32), .long (0 : Int64)])), (t0, .inl (cI, 30, .inl (upd fp 0 (1 : Int32))))]) rfl (fun _ h => h) dX4_goOver_18 ?_
  refine g_aload_n B dX4_goOver_19 0 rfl ?_
  refine g_dup B dX4_goOver_20 rfl ?_
  refine g_get (C := RX4) (T := TX4) (N := 4) (ci := 4) B hK hin_X4_goOver_RX4 0 rfl rfl 1 (by decide) (List.mem_of_getElem? (i := 1) rfl) rfl (v := .int (0 : Int32)) rfl dX4_goOver_21 ?_
  refine g_iconst (v := (1 : Int32)) B dX4_goOver_24 (by decide) ?_
  refine g_iadd (v := (1 : Int32)) B dX4_goOver_25 (by decide) ?_
  refine g_put (C := RX4) (T := TX4) (N := 4) (ci := 4) B hK hin_X4_goOver_RX4 0 rfl rfl 1 (by decide) tyX4 tyX4_ok nmX4 (List.mem_of_getElem? (i := 1) rfl) rfl rfl (ty := .int) (v := .int (1 : Int32)) (by decide +kernel) rfl rfl (Nat.le_of_ble_eq_true rfl) (w2 := [(ht, .inr (4, [.ref t0, .int (1 : Int32), .int (-1 : Int32), .long (0 : Int64)])), (t0, .inl (cI, 30, .inl (upd fp 0 (1 : Int32))))]) rfl (fun _ h => h) dX4_goOver_26 ?_
  refine g_aload_n B dX4_goOver_29 0 rfl ?_
  refine g_dup B dX4_goOver_30 rfl ?_
  refine g_get (C := RX4) (T := TX4) (N := 4) (ci := 4) B hK hin_X4_goOver_RX4 0 rfl rfl 3 (by decide) (List.mem_of_getElem? (i := 3) rfl) rfl (v := .long (0 : Int64)) rfl dX4_goOver_31 ?_
  refine g_iload_n B dX4_goOver_34 1 rfl ?_
  refine g_callP (g_runSN B hN (PM.met (c_X5_bit l (D := D) (cI := cI) (cL := cL) (cZ := cZ) 1 (by omega))) (gPp.pre (av := [.int (1 : Int32)]) (wc := []) hK hN [] rfl (by decide)) gX4_goOver_X5_bit_n26 (List.mem_of_getElem? (i := 6) rfl) (List.mem_of_getElem? (i := 5) rfl) 14 rfl rfl kd_X5_bit ⟨by decide, by decide⟩ (st := [.long (0 : Int64), .ref ht]) rfl (Nat.le_of_ble_eq_true rfl) dX4_goOver_35 ⟨by decide, by decide⟩) (fun u hu => ?_)
  obtain ⟨r_2, e9⟩ : ∃ z, z = u := ⟨_, rfl⟩; subst e9
  try dsimp only at hu ⊢
  have e2_0 := hu
  subst e2_0
  refine g_eql (y := (2 : Int64)) (by decide) ?_
  refine g_lor (v := (2 : Int64)) B dX4_goOver_38 (by decide) ?_
  refine g_put (C := RX4) (T := TX4) (N := 4) (ci := 4) B hK hin_X4_goOver_RX4 0 rfl rfl 3 (by decide) tyX4 tyX4_ok nmX4 (List.mem_of_getElem? (i := 3) rfl) rfl rfl (ty := .long) (v := .long (2 : Int64)) (by decide +kernel) rfl rfl (Nat.le_of_ble_eq_true rfl) (w2 := [(ht, .inr (4, [.ref t0, .int (1 : Int32), .int (-1 : Int32), .long (2 : Int64)])), (t0, .inl (cI, 30, .inl (upd fp 0 (1 : Int32))))]) rfl (fun _ h => h) dX4_goOver_39 ?_
  refine g_aload_n B dX4_goOver_42 0 rfl ?_
  refine g_iload_n B dX4_goOver_43 1 rfl ?_
  refine g_put (C := RX4) (T := TX4) (N := 4) (ci := 4) B hK hin_X4_goOver_RX4 0 rfl rfl 2 (by decide) tyX4 tyX4_ok nmX4 (List.mem_of_getElem? (i := 4) rfl) rfl rfl (ty := .int) (v := .int (1 : Int32)) (by decide +kernel) rfl rfl (Nat.le_of_ble_eq_true rfl) (w2 := [(ht, .inr (4, [.ref t0, .int (1 : Int32), .int (1 : Int32), .long (2 : Int64)])), (t0, .inl (cI, 30, .inl (upd fp 0 (1 : Int32))))]) rfl (fun _ h => h) dX4_goOver_44 ?_
  exact g_vret_w B hr hlocks () (rfl) (trivial) [0, 1] (by decide) rfl dX4_goOver_47

set_option maxHeartbeats 4000000 in
set_option maxRecDepth 100000 in
theorem k_isSo (l : Launch) {D : va_G} {cI cL cZ : ClassId} (hp : Nat) (p0 : Nat) (p1 : Nat) (p2 : Nat) (p3 : Nat) (p4 : Nat) (t : Nat) (ht1 : t < 10000) : PM l yX2_isSo wsX2_isSo ({ frames := 1, cells := 0, slots := 0, locals := 21 } : Room) D (gTys cI cL cZ) [.ref hp, .int (0 : Int32), .int (nI t)] [(hp, .inr (2, [.ref p0, .ref p1, .ref p2, .ref p3, .ref p4])), (p0, .inl (cI, 12, .inl (fun _ => (0 : Int32)))), (p1, .inl (cI, 12, .inl (fun _ => (0 : Int32)))), (p2, .inl (cI, 12, .inl (fun _ => (0 : Int32))))] (fun (_ : Unit) => True) (fun (_ : Unit) => some (.int (0 : Int32))) := by
  refine PM.ofG cX2_isSo 4 (some .boolean) (by decide +kernel) rfl (Nat.le_of_ble_eq_true rfl) ?_
  intro p e s m below meth c B hr hlocks hname hK hN
  refine g_iload_n B dX2_isSo_0 2 rfl ?_
  refine g_aload_n B dX2_isSo_1 0 rfl ?_
  refine g_get (C := RX2) (T := TX2) (N := 5) (ci := 2) B hK hin_X2_isSo_RX2 0 rfl rfl 0 (by decide) (List.mem_of_getElem? (i := 1) rfl) rfl (v := .ref p0) rfl dX2_isSo_2 ?_
  refine g_iload_n B dX2_isSo_5 1 rfl ?_
  refine g_iald B hK 1 0 rfl rfl 0 rfl (by omega) (by omega) (v := (0 : Int32)) rfl dX2_isSo_6 ?_
  refine g_callP (g_runSN B hN (PM.met (c_X5_valueOf_a l (D := D) (cI := cI) (cL := cL) (cZ := cZ) t (by omega))) (gPp.pre (av := [.int (nI t), .int (0 : Int32)]) (wc := []) hK hN [] rfl (by decide)) gX2_isSo_X5_valueOf_n54 (List.mem_of_getElem? (i := 5) rfl) (List.mem_of_getElem? (i := 4) rfl) 9 rfl rfl kd_X5_valueOf ⟨by decide, by decide⟩ (st := []) rfl (Nat.le_of_ble_eq_true rfl) dX2_isSo_7 ⟨by decide, by decide⟩) (fun u hu => ?_)
  obtain ⟨r_1, e9⟩ : ∃ z, z = u := ⟨_, rfl⟩; subst e9
  try dsimp only at hu ⊢
  have e1_0 := hu
  subst e1_0
  refine g_istore_n (lv' := [(0, .ref hp), (1, .int (0 : Int32)), (2, .int (nI t)), (3, .int (nI (t / 1000 % 10)))]) B dX2_isSo_10 rfl (by decide) [1, 2, 3, 0] rfl ?_
  refine g_aload_n B dX2_isSo_11 0 rfl ?_
  refine g_get (C := RX2) (T := TX2) (N := 5) (ci := 2) B hK hin_X2_isSo_RX2 0 rfl rfl 1 (by decide) (List.mem_of_getElem? (i := 2) rfl) rfl (v := .ref p1) rfl dX2_isSo_12 ?_
  refine g_iload_n B dX2_isSo_15 1 rfl ?_
  refine g_iald B hK 2 0 rfl rfl 0 rfl (by omega) (by omega) (v := (0 : Int32)) rfl dX2_isSo_16 ?_
  refine g_lookup (off := 27) (tgt := 44) B dX2_isSo_17 (by decide) (by decide) (by decide) ?_
  refine g_iload_n B dX2_isSo_44 3 rfl ?_
  refine g_aload_n B dX2_isSo_45 0 rfl ?_
  refine g_get (C := RX2) (T := TX2) (N := 5) (ci := 2) B hK hin_X2_isSo_RX2 0 rfl rfl 2 (by decide) (List.mem_of_getElem? (i := 3) rfl) rfl (v := .ref p2) rfl dX2_isSo_46 ?_
  refine g_iload_n B dX2_isSo_49 1 rfl ?_
  refine g_iald B hK 3 0 rfl rfl 0 rfl (by omega) (by omega) (v := (0 : Int32)) rfl dX2_isSo_50 ?_
  refine g_ncmp_ge (tgt := 58) B (t / 1000 % 10) 0 rfl rfl (by omega) (by omega) dX2_isSo_51 (by decide) (fun c2 => ?_) (fun c2 => ?_)
  rotate_left; · exfalso; omega
  refine g_iconst (v := (0 : Int32)) B dX2_isSo_58 (by decide) ?_
  exact g_iret_p B hr rfl hlocks () (rfl) (trivial) dX2_isSo_59

set_option maxHeartbeats 4000000 in
set_option maxRecDepth 100000 in
theorem k_follow (l : Launch) {D : va_G} {cI cL cZ : ClassId} (hp : Nat) (p0 : Nat) (p1 : Nat) (p2 : Nat) (p3 : Nat) (p4 : Nat) (ht : Nat) (t0 : Nat) (fp : Nat → Int32) (ts : Int32) (tr : Int32) (tf : Int64) (t : Nat) (ht1 : t < 10000) : WM l yX2_follow wsX2_follow ({ frames := 2, cells := 0, slots := 0, locals := 44 } : Room) D (gTys cI cL cZ) [.ref hp, .int (nI t), .ref ht] [(hp, .inr (2, [.ref p0, .ref p1, .ref p2, .ref p3, .ref p4])), (p0, .inl (cI, 12, .inl (fun _ => (0 : Int32)))), (p1, .inl (cI, 12, .inl (fun _ => (0 : Int32)))), (p2, .inl (cI, 12, .inl (fun _ => (0 : Int32)))), (p3, .inl (cI, 24, .inl (fun _ => (-1 : Int32)))), (p4, .inl (cZ, 12, .inl (fun _ => (0 : Int32)))), (ht, .inr (4, [.ref t0, .int ts, .int tr, .long tf])), (t0, .inl (cI, 30, .inl fp))] (fun (fp2 : Nat → Int32) => fp2 0 = 1) (fun (fp2 : Nat → Int32) => none) (fun (fp2 : Nat → Int32) => [(hp, .inr (2, [.ref p0, .ref p1, .ref p2, .ref p3, .ref p4])), (p0, .inl (cI, 12, .inl (fun _ => (0 : Int32)))), (p1, .inl (cI, 12, .inl (fun _ => (0 : Int32)))), (p2, .inl (cI, 12, .inl (fun _ => (0 : Int32)))), (p3, .inl (cI, 24, .inl (fun _ => (-1 : Int32)))), (p4, .inl (cZ, 12, .inl (fun _ => (0 : Int32)))), (ht, .inr (4, [.ref t0, .int (1 : Int32), .int (1 : Int32), .long (2 : Int64)])), (t0, .inl (cI, 30, .inl fp2))]) := by
  refine WM.ofG cX2_follow 6 none (by decide +kernel) rfl (Nat.le_of_ble_eq_true rfl) ?_
  intro p e s m below meth c A hA B hr hlocks hname hK hN
  refine g_aload_n B dX2_follow_0 2 rfl ?_
  refine g_callW (w2 := (fun (_ : Unit) => [(hp, .inr (2, [.ref p0, .ref p1, .ref p2, .ref p3, .ref p4])), (p0, .inl (cI, 12, .inl (fun _ => (0 : Int32)))), (p1, .inl (cI, 12, .inl (fun _ => (0 : Int32)))), (p2, .inl (cI, 12, .inl (fun _ => (0 : Int32)))), (p3, .inl (cI, 24, .inl (fun _ => (-1 : Int32)))), (p4, .inl (cZ, 12, .inl (fun _ => (0 : Int32)))), (ht, .inr (4, [.ref t0, .int (0 : Int32), .int (-1 : Int32), .long (0 : Int64)])), (t0, .inl (cI, 30, .inl fp))])) (g_runV (q0 := 6) (ci := 4) B hK rfl rfl (k_begin l (D := D) (cI := cI) (cL := cL) (cZ := cZ) ht t0 ts tr tf ) (gPw.pre (av := [.ref ht]) (wc := [(ht, .inr (4, [.ref t0, .int ts, .int tr, .long tf]))]) hK hN [6] rfl (by decide)) gX2_follow_X4_begin rfl rfl kd_X4_begin ⟨by decide, by decide⟩ (st := []) rfl (Nat.le_of_ble_eq_true rfl) dX2_follow_1 ⟨by decide, by decide⟩) hA (fun _ h => h) [6] [0, 1, 2, 3, 4, 5, 7] (wr := [(hp, .inr (2, [.ref p0, .ref p1, .ref p2, .ref p3, .ref p4])), (p0, .inl (cI, 12, .inl (fun _ => (0 : Int32)))), (p1, .inl (cI, 12, .inl (fun _ => (0 : Int32)))), (p2, .inl (cI, 12, .inl (fun _ => (0 : Int32)))), (p3, .inl (cI, 24, .inl (fun _ => (-1 : Int32)))), (p4, .inl (cZ, 12, .inl (fun _ => (0 : Int32)))), (t0, .inl (cI, 30, .inl fp))]) rfl rfl (by decide) (by decide) [0, 1, 2, 3, 4, 5, 7, 6] (by decide) (fun _ => rfl) (fun u hu => ?_)
  refine g_iconst (v := (0 : Int32)) B dX2_follow_4 (by decide) ?_
  refine g_istore_n (lv' := [(0, .ref hp), (1, .int (nI t)), (2, .ref ht), (3, .int (0 : Int32))]) B dX2_follow_5 rfl (by decide) [1, 2, 3, 0] rfl ?_
  refine g_iconst (v := (0 : Int32)) B dX2_follow_6 (by decide) ?_
  refine g_istore (lv' := [(0, .ref hp), (1, .int (nI t)), (2, .ref ht), (3, .int (0 : Int32)), (4, .int (0 : Int32))]) B dX2_follow_7 (by decide) [1, 2, 3, 4, 0] rfl ?_
  refine g_iload B dX2_follow_9 4 rfl ?_
  refine g_bipush (v := (30 : Int32)) B dX2_follow_11 (by decide) ?_
  refine g_icmp_ge (tgt := 74) B dX2_follow_13 (by decide) (fun c2 => absurd c2 (by decide)) (fun _ => ?_)
  refine g_iload_n B dX2_follow_16 3 rfl ?_
  refine g_callP (g_runSN B hN (PM.met (c_X5_isNode_n l (D := D) (cI := cI) (cL := cL) (cZ := cZ) 0 (by omega))) (gPp.pre (av := [.int (0 : Int32)]) (wc := []) hK hN [] rfl (by decide)) gX2_follow_X5_isNode_n39 (List.mem_of_getElem? (i := 12) rfl) (List.mem_of_getElem? (i := 11) rfl) 8 rfl rfl kd_X5_isNode ⟨by decide, by decide⟩ (st := []) rfl (Nat.le_of_ble_eq_true rfl) dX2_follow_17 ⟨by decide, by decide⟩) (fun u hu => ?_)
  refine g_if_eq (tgt := 74) B dX2_follow_20 (by decide) (fun c4 => absurd c4 (by decide)) (fun _ => ?_)
  refine g_aload_n B dX2_follow_23 0 rfl ?_
  refine g_get (C := RX2) (T := TX2) (N := 5) (ci := 2) B hK hin_X2_follow_RX2 0 rfl rfl 4 (by decide) (List.mem_of_getElem? (i := 1) rfl) rfl (v := .ref p4) rfl dX2_follow_24 ?_
  refine g_iload_n B dX2_follow_27 3 rfl ?_
  refine g_zald B hK 5 2 rfl rfl 0 rfl (by omega) (by omega) (v := (0 : Int32)) rfl dX2_follow_28 ?_
  refine g_if_ne (tgt := 74) B dX2_follow_29 (by decide) (fun c5 => absurd (by decide) c5) (fun _ => ?_)
  refine g_aload_n B dX2_follow_32 0 rfl ?_
  refine g_iload_n B dX2_follow_33 3 rfl ?_
  refine g_iload_n B dX2_follow_34 1 rfl ?_
  refine g_callP (g_runV (q0 := 0) (ci := 2) B hK rfl rfl (PM.met (k_isSo l (D := D) (cI := cI) (cL := cL) (cZ := cZ) hp p0 p1 p2 p3 p4 t (by omega))) (gPp.pre (av := [.ref hp, .int (0 : Int32), .int (nI t)]) (wc := [(hp, .inr (2, [.ref p0, .ref p1, .ref p2, .ref p3, .ref p4])), (p0, .inl (cI, 12, .inl (fun _ => (0 : Int32)))), (p1, .inl (cI, 12, .inl (fun _ => (0 : Int32)))), (p2, .inl (cI, 12, .inl (fun _ => (0 : Int32))))]) hK hN [0, 1, 2, 3] rfl (by decide)) gX2_follow_X2_isSo rfl rfl kd_X2_isSo ⟨by decide, by decide⟩ (st := []) rfl (Nat.le_of_ble_eq_true rfl) dX2_follow_35 ⟨by decide, by decide⟩) (fun u hu => ?_)
  refine g_if_eq (tgt := 47) B dX2_follow_38 (by decide) (fun _ => ?_) (fun c7 => absurd (by decide) c7)
  refine g_iconst (v := (2 : Int32)) B dX2_follow_47 (by decide) ?_
  refine g_iload_n B dX2_follow_48 3 rfl ?_
  refine g_imul (v := (0 : Int32)) B dX2_follow_49 (by decide) ?_
  refine g_iconst (v := (1 : Int32)) B dX2_follow_50 (by decide) ?_
  refine g_iadd (v := (1 : Int32)) B dX2_follow_51 (by decide) ?_
  refine g_istore (lv' := [(0, .ref hp), (1, .int (nI t)), (2, .ref ht), (3, .int (0 : Int32)), (4, .int (0 : Int32)), (5, .int (1 : Int32))]) B dX2_follow_52 (by decide) [1, 2, 3, 4, 5, 0] rfl ?_
  refine g_aload_n B dX2_follow_54 2 rfl ?_
  refine g_iload B dX2_follow_55 5 rfl ?_
  refine g_callW (w2 := (fun (_ : Unit) => [(hp, .inr (2, [.ref p0, .ref p1, .ref p2, .ref p3, .ref p4])), (p0, .inl (cI, 12, .inl (fun _ => (0 : Int32)))), (p1, .inl (cI, 12, .inl (fun _ => (0 : Int32)))), (p2, .inl (cI, 12, .inl (fun _ => (0 : Int32)))), (p3, .inl (cI, 24, .inl (fun _ => (-1 : Int32)))), (p4, .inl (cZ, 12, .inl (fun _ => (0 : Int32)))), (ht, .inr (4, [.ref t0, .int (1 : Int32), .int (1 : Int32), .long (2 : Int64)])), (t0, .inl (cI, 30, .inl (upd fp 0 (1 : Int32))))])) (g_runV (q0 := 6) (ci := 4) B hK rfl rfl (k_goOver l (D := D) (cI := cI) (cL := cL) (cZ := cZ) ht t0 fp ) (gPw.pre (av := [.ref ht, .int (1 : Int32)]) (wc := [(ht, .inr (4, [.ref t0, .int (0 : Int32), .int (-1 : Int32), .long (0 : Int64)])), (t0, .inl (cI, 30, .inl fp))]) hK hN [6, 7] rfl (by decide)) gX2_follow_X4_goOver rfl rfl kd_X4_goOver ⟨by decide, by decide⟩ (st := []) rfl (Nat.le_of_ble_eq_true rfl) dX2_follow_57 ⟨by decide, by decide⟩) hA (fun _ h => h) [6, 7] [0, 1, 2, 3, 4, 5] (wr := [(hp, .inr (2, [.ref p0, .ref p1, .ref p2, .ref p3, .ref p4])), (p0, .inl (cI, 12, .inl (fun _ => (0 : Int32)))), (p1, .inl (cI, 12, .inl (fun _ => (0 : Int32)))), (p2, .inl (cI, 12, .inl (fun _ => (0 : Int32)))), (p3, .inl (cI, 24, .inl (fun _ => (-1 : Int32)))), (p4, .inl (cZ, 12, .inl (fun _ => (0 : Int32))))]) rfl rfl (by decide) (by decide) [0, 1, 2, 3, 4, 5, 6, 7] (by decide) (fun _ => rfl) (fun u hu => ?_)
  refine g_aload_n B dX2_follow_60 0 rfl ?_
  refine g_get (C := RX2) (T := TX2) (N := 5) (ci := 2) B hK hin_X2_follow_RX2 0 rfl rfl 3 (by decide) (List.mem_of_getElem? (i := 2) rfl) rfl (v := .ref p3) rfl dX2_follow_61 ?_
  refine g_iload B dX2_follow_64 5 rfl ?_
  refine g_iald B hK 4 0 rfl rfl 1 rfl (by omega) (by omega) (v := (-1 : Int32)) rfl dX2_follow_66 ?_
  refine g_istore_n (lv' := [(0, .ref hp), (1, .int (nI t)), (2, .ref ht), (3, .int (-1 : Int32)), (4, .int (0 : Int32)), (5, .int (1 : Int32))]) B dX2_follow_67 rfl (by decide) [1, 2, 3, 0, 4, 5] rfl ?_
  refine g_iinc (lv' := [(0, .ref hp), (1, .int (nI t)), (2, .ref ht), (3, .int (-1 : Int32)), (4, .int (1 : Int32)), (5, .int (1 : Int32))]) B dX2_follow_68 4 rfl (by decide) (by decide) [1, 2, 3, 4, 0, 5] rfl ?_
  refine g_goto (tgt := 9) B dX2_follow_71 (by decide) ?_
  refine g_iload B dX2_follow_9 4 rfl ?_
  refine g_bipush (v := (30 : Int32)) B dX2_follow_11 (by decide) ?_
  refine g_icmp_ge (tgt := 74) B dX2_follow_13 (by decide) (fun c9 => absurd c9 (by decide)) (fun _ => ?_)
  refine g_iload_n B dX2_follow_16 3 rfl ?_
  refine g_callP (g_runSN B hN (PM.met (c_X5_isNode_m l (D := D) (cI := cI) (cL := cL) (cZ := cZ)  )) (gPp.pre (av := [.int (-1 : Int32)]) (wc := []) hK hN [] rfl (by decide)) gX2_follow_X5_isNode_n39 (List.mem_of_getElem? (i := 12) rfl) (List.mem_of_getElem? (i := 11) rfl) 8 rfl rfl kd_X5_isNode ⟨by decide, by decide⟩ (st := []) rfl (Nat.le_of_ble_eq_true rfl) dX2_follow_17 ⟨by decide, by decide⟩) (fun u hu => ?_)
  refine g_if_eq (tgt := 74) B dX2_follow_20 (by decide) (fun _ => ?_) (fun c11 => absurd (by decide) c11)
  refine g_iload_n B dX2_follow_74 3 rfl ?_
  refine g_callP (g_runSN B hN (PM.met (c_X5_isNode_m l (D := D) (cI := cI) (cL := cL) (cZ := cZ)  )) (gPp.pre (av := [.int (-1 : Int32)]) (wc := []) hK hN [] rfl (by decide)) gX2_follow_X5_isNode_n39 (List.mem_of_getElem? (i := 12) rfl) (List.mem_of_getElem? (i := 11) rfl) 8 rfl rfl kd_X5_isNode ⟨by decide, by decide⟩ (st := []) rfl (Nat.le_of_ble_eq_true rfl) dX2_follow_75 ⟨by decide, by decide⟩) (fun u hu => ?_)
  refine g_if_eq (tgt := 100) B dX2_follow_78 (by decide) (fun _ => ?_) (fun c13 => absurd (by decide) c13)
  exact g_vret_w B hr hlocks (upd fp 0 (1 : Int32)) (rfl) (rfl) [0, 1, 2, 3, 4, 5, 6, 7] (by decide) rfl dX2_follow_100

set_option maxHeartbeats 4000000 in
set_option maxRecDepth 100000 in
theorem k_resultOf (l : Launch) {D : va_G} {cI cL cZ : ClassId} (hb : Nat) (hg : Nat) (ha : Nat) (hq : Nat) (hp : Nat) (p0 : Nat) (p1 : Nat) (p2 : Nat) (p3 : Nat) (p4 : Nat) (ht : Nat) (t0 : Nat) (fp : Nat → Int32) (ts : Int32) (tr : Int32) (tf : Int64) (t : Nat) (ht1 : t < 10000) : WM l yX5_resultOf wsX5_resultOf ({ frames := 3, cells := 0, slots := 0, locals := 69 } : Room) D (gTys cI cL cZ) [.ref hb, .int (nI t)] [(hb, .inr (5, [.ref hp, .ref ht, .ref hg, .ref ha, .ref hq])), (hp, .inr (2, [.ref p0, .ref p1, .ref p2, .ref p3, .ref p4])), (p0, .inl (cI, 12, .inl (fun _ => (0 : Int32)))), (p1, .inl (cI, 12, .inl (fun _ => (0 : Int32)))), (p2, .inl (cI, 12, .inl (fun _ => (0 : Int32)))), (p3, .inl (cI, 24, .inl (fun _ => (-1 : Int32)))), (p4, .inl (cZ, 12, .inl (fun _ => (0 : Int32)))), (ht, .inr (4, [.ref t0, .int ts, .int tr, .long tf])), (t0, .inl (cI, 30, .inl fp))] (fun (fp2 : Nat → Int32) => True) (fun (fp2 : Nat → Int32) => some (.int (1 : Int32))) (fun (fp2 : Nat → Int32) => [(hb, .inr (5, [.ref hp, .ref ht, .ref hg, .ref ha, .ref hq])), (hp, .inr (2, [.ref p0, .ref p1, .ref p2, .ref p3, .ref p4])), (p0, .inl (cI, 12, .inl (fun _ => (0 : Int32)))), (p1, .inl (cI, 12, .inl (fun _ => (0 : Int32)))), (p2, .inl (cI, 12, .inl (fun _ => (0 : Int32)))), (p3, .inl (cI, 24, .inl (fun _ => (-1 : Int32)))), (p4, .inl (cZ, 12, .inl (fun _ => (0 : Int32)))), (ht, .inr (4, [.ref t0, .int (1 : Int32), .int (1 : Int32), .long (2 : Int64)])), (t0, .inl (cI, 30, .inl fp2))]) := by
  refine WM.ofG cX5_resultOf 2 (some .int) (by decide +kernel) rfl (Nat.le_of_ble_eq_true rfl) ?_
  intro p e s m below meth c A hA B hr hlocks hname hK hN
  refine g_aload_n B dX5_resultOf_0 0 rfl ?_
  refine g_get (C := RX5) (T := TX5) (N := 5) (ci := 5) B hK hin_X5_resultOf_RX5 0 rfl rfl 0 (by decide) (List.mem_of_getElem? (i := 1) rfl) rfl (v := .ref hp) rfl dX5_resultOf_1 ?_
  refine g_iload_n B dX5_resultOf_4 1 rfl ?_
  refine g_aload_n B dX5_resultOf_5 0 rfl ?_
  refine g_get (C := RX5) (T := TX5) (N := 5) (ci := 5) B hK hin_X5_resultOf_RX5 0 rfl rfl 1 (by decide) (List.mem_of_getElem? (i := 2) rfl) rfl (v := .ref ht) rfl dX5_resultOf_6 ?_
  refine g_callW (w2 := (fun (fp2_1 : Nat → Int32) => [(hb, .inr (5, [.ref hp, .ref ht, .ref hg, .ref ha, .ref hq])), (hp, .inr (2, [.ref p0, .ref p1, .ref p2, .ref p3, .ref p4])), (p0, .inl (cI, 12, .inl (fun _ => (0 : Int32)))), (p1, .inl (cI, 12, .inl (fun _ => (0 : Int32)))), (p2, .inl (cI, 12, .inl (fun _ => (0 : Int32)))), (p3, .inl (cI, 24, .inl (fun _ => (-1 : Int32)))), (p4, .inl (cZ, 12, .inl (fun _ => (0 : Int32)))), (ht, .inr (4, [.ref t0, .int (1 : Int32), .int (1 : Int32), .long (2 : Int64)])), (t0, .inl (cI, 30, .inl fp2_1))])) (g_runV (q0 := 1) (ci := 2) B hK rfl rfl (k_follow l (D := D) (cI := cI) (cL := cL) (cZ := cZ) hp p0 p1 p2 p3 p4 ht t0 fp ts tr tf t (by omega)) (gPw.pre (av := [.ref hp, .int (nI t), .ref ht]) (wc := [(hp, .inr (2, [.ref p0, .ref p1, .ref p2, .ref p3, .ref p4])), (p0, .inl (cI, 12, .inl (fun _ => (0 : Int32)))), (p1, .inl (cI, 12, .inl (fun _ => (0 : Int32)))), (p2, .inl (cI, 12, .inl (fun _ => (0 : Int32)))), (p3, .inl (cI, 24, .inl (fun _ => (-1 : Int32)))), (p4, .inl (cZ, 12, .inl (fun _ => (0 : Int32)))), (ht, .inr (4, [.ref t0, .int ts, .int tr, .long tf])), (t0, .inl (cI, 30, .inl fp))]) hK hN [1, 2, 3, 4, 5, 6, 7, 8] rfl (by decide)) gX5_resultOf_X2_follow rfl rfl kd_X2_follow ⟨by decide, by decide⟩ (st := []) rfl (Nat.le_of_ble_eq_true rfl) dX5_resultOf_9 ⟨by decide, by decide⟩) hA (fun _ h => h) [1, 2, 3, 4, 5, 6, 7, 8] [0] (wr := [(hb, .inr (5, [.ref hp, .ref ht, .ref hg, .ref ha, .ref hq]))]) rfl rfl (by decide) (by decide) [0, 1, 2, 3, 4, 5, 6, 7, 8] (by decide) (fun _ => rfl) (fun u hu => ?_)
  obtain ⟨fp2_1, e9⟩ : ∃ z, z = u := ⟨_, rfl⟩; subst e9
  try dsimp only at hu ⊢
  have hu1 := hu
  refine g_aload_n B dX5_resultOf_12 0 rfl ?_
  refine g_get (C := RX5) (T := TX5) (N := 5) (ci := 5) B hK hin_X5_resultOf_RX5 0 rfl rfl 1 (by decide) (List.mem_of_getElem? (i := 2) rfl) rfl (v := .ref ht) rfl dX5_resultOf_13 ?_
  refine g_getN (C := RX4) (T := TX4) (N := 4) (ci := 4) B hK hin_X5_resultOf_RX4 7 rfl rfl 2 (by decide) hN 12 rfl rfl (v := .int (1 : Int32)) rfl dX5_resultOf_16 ?_
  exact g_iret_w B hr rfl hlocks fp2_1 (rfl) (trivial) [0, 1, 2, 3, 4, 5, 6, 7, 8] (by decide) rfl dX5_resultOf_19

set_option maxHeartbeats 4000000 in
set_option maxRecDepth 100000 in
theorem k_reachableNodes (l : Launch) {D : va_G} {cI cL cZ : ClassId} (hp : Nat) (p0 : Nat) (p1 : Nat) (p2 : Nat) (p3 : Nat) (p4 : Nat)  : PM l yX2_reachableNodes wsX2_reachableNodes ({ frames := 1, cells := 0, slots := 0, locals := 22 } : Room) D (gTys cI cL cZ) [.ref hp] [(hp, .inr (2, [.ref p0, .ref p1, .ref p2, .ref p3, .ref p4])), (p3, .inl (cI, 24, .inl (fun _ => (-1 : Int32))))] (fun (_ : Unit) => True) (fun (_ : Unit) => some (.int (1 : Int32))) := by
  refine PM.ofG cX2_reachableNodes 5 (some .int) (by decide +kernel) rfl (Nat.le_of_ble_eq_true rfl) ?_
  intro p e s m below meth c B hr hlocks hname hK hN
  refine g_lconst (v := (1 : Int64)) B dX2_reachableNodes_0 rfl ?_
  refine g_lstore_n (lv' := [(0, .ref hp), (1, .long (1 : Int64))]) B dX2_reachableNodes_1 rfl (by decide) [1, 0] rfl ?_
  refine g_iconst (v := (0 : Int32)) B dX2_reachableNodes_2 (by decide) ?_
  refine g_istore_n (lv' := [(0, .ref hp), (1, .long (1 : Int64)), (3, .int (0 : Int32))]) B dX2_reachableNodes_3 rfl (by decide) [1, 2, 0] rfl ?_
  refine g_loop (σ := Nat) (fun x9 => x9 ≤ 12) (fun x9 => 13 - x9) (fun x9 => 0) (fun x9 => 0) (fun x9 => [(hp, .inr (2, [.ref p0, .ref p1, .ref p2, .ref p3, .ref p4])), (p3, .inl (cI, 24, .inl (fun _ => (-1 : Int32))))]) (fun x9 => [(0, .ref hp), (1, .long (1 : Int64)), (3, .int (nI x9))]) (fun x9 hI ih4 => ?_) 0 (by (try dsimp only); omega) rfl rfl rfl rfl
  obtain ⟨k, e9⟩ : ∃ z, z = x9 := ⟨_, rfl⟩; subst e9
  try dsimp only at hI ih4 ⊢
  refine g_iload_n B dX2_reachableNodes_4 2 rfl ?_
  refine g_bipush (v := (12 : Int32)) B dX2_reachableNodes_5 (by decide) ?_
  refine g_ncmp_ge (tgt := 69) B k 12 rfl rfl (by omega) (by omega) dX2_reachableNodes_7 (by decide) (fun c1 => ?_) (fun c1 => ?_)
  · refine g_lload_n B dX2_reachableNodes_69 1 rfl ?_
    refine g_callP (g_runS B (PM.met (c_bitCount_1 l (D := D) (cI := cI) (cL := cL) (cZ := cZ)  )) (gPp.pre (av := [.long (1 : Int64)]) (wc := []) hK hN [] rfl (by decide)) gX2_reachableNodes_J13_bitCount_95d88 rfl kd_J13_bitCount_95d88 ⟨by decide, by decide⟩ (st := []) rfl (Nat.le_of_ble_eq_true rfl) dX2_reachableNodes_70 ⟨by decide, by decide⟩) (fun u hu => ?_)
    exact g_iret_p B hr rfl hlocks () (rfl) (trivial) dX2_reachableNodes_73
  · refine g_iconst (v := (0 : Int32)) B dX2_reachableNodes_10 (by decide) ?_
    refine g_istore (lv' := [(0, .ref hp), (1, .long (1 : Int64)), (3, .int (nI k)), (4, .int (0 : Int32))]) B dX2_reachableNodes_11 (by decide) [1, 2, 3, 0] rfl ?_
    refine g_loop (σ := Nat) (fun x9 => x9 ≤ 24) (fun x9 => 25 - x9) (fun x9 => 0) (fun x9 => 0) (fun x9 => [(hp, .inr (2, [.ref p0, .ref p1, .ref p2, .ref p3, .ref p4])), (p3, .inl (cI, 24, .inl (fun _ => (-1 : Int32))))]) (fun x9 => [(0, .ref hp), (1, .long (1 : Int64)), (3, .int (nI k)), (4, .int (nI x9))]) (fun x9 hI ih13 => ?_) 0 (by (try dsimp only); omega) rfl rfl rfl rfl
    obtain ⟨j, e9⟩ : ∃ z, z = x9 := ⟨_, rfl⟩; subst e9
    try dsimp only at hI ih13 ⊢
    refine g_iload B dX2_reachableNodes_13 3 rfl ?_
    refine g_bipush (v := (24 : Int32)) B dX2_reachableNodes_15 (by decide) ?_
    refine g_ncmp_ge (tgt := 63) B j 24 rfl rfl (by omega) (by omega) dX2_reachableNodes_17 (by decide) (fun c3 => ?_) (fun c3 => ?_)
    · refine g_iinc (lv' := [(0, .ref hp), (1, .long (1 : Int64)), (3, .int (nI (k + 1))), (4, .int (nI j))]) B dX2_reachableNodes_63 2 rfl (nI_1 k) (by decide) [1, 2, 0, 3] rfl ?_
      refine g_goto (tgt := 4) B dX2_reachableNodes_66 (by decide) ?_
      exact g_pick [0, 1, 2] rfl (ih4 (k + 1) (by (try dsimp only); omega) (by (try dsimp only); omega))
    · refine g_lload_n B dX2_reachableNodes_20 1 rfl ?_
      refine g_iload B dX2_reachableNodes_21 3 rfl ?_
      refine g_iconst (v := (2 : Int32)) B dX2_reachableNodes_23 (by decide) ?_
      refine g_idiv (v := nI (j / 2)) B dX2_reachableNodes_24 (by decide) (pk_div (a := j) (d := 2) (by omega) (by decide) (by decide)) ?_
      refine g_callP (g_runSN B hN (PM.met (c_X5_contains l (D := D) (cI := cI) (cL := cL) (cZ := cZ) (1 : Int64) (j / 2) (by omega))) (gPp.pre (av := [.long (1 : Int64), .int (nI (j / 2))]) (wc := []) hK hN [] rfl (by decide)) gX2_reachableNodes_X5_contains_n58 (List.mem_of_getElem? (i := 3) rfl) (List.mem_of_getElem? (i := 2) rfl) 10 rfl rfl kd_X5_contains ⟨by decide, by decide⟩ (st := []) rfl (Nat.le_of_ble_eq_true rfl) dX2_reachableNodes_25 ⟨by decide, by decide⟩) (fun u hu => ?_)
      obtain ⟨r_4, e9⟩ : ∃ z, z = u := ⟨_, rfl⟩; subst e9
      try dsimp only at hu ⊢
      have e4_0 := hu
      subst e4_0
      refine g_if_eq (tgt := 57) B dX2_reachableNodes_28 (by decide) (fun c5 => ?_) (fun c5 => ?_)
      · refine g_iinc (lv' := [(0, .ref hp), (1, .long (1 : Int64)), (3, .int (nI k)), (4, .int (nI (j + 1)))]) B dX2_reachableNodes_57 3 rfl (nI_1 j) (by decide) [1, 2, 3, 0] rfl ?_
        refine g_goto (tgt := 13) B dX2_reachableNodes_60 (by decide) ?_
        exact ih13 (j + 1) (by (try dsimp only); omega) (by (try dsimp only); omega)
      · refine g_aload_n B dX2_reachableNodes_31 0 rfl ?_
        refine g_get (C := RX2) (T := TX2) (N := 5) (ci := 2) B hK hin_X2_reachableNodes_RX2 0 rfl rfl 3 (by decide) (List.mem_of_getElem? (i := 1) rfl) rfl (v := .ref p3) rfl dX2_reachableNodes_32 ?_
        refine g_iload B dX2_reachableNodes_35 3 rfl ?_
        refine g_iald B hK 1 0 rfl rfl j rfl (by omega) (by omega) (v := (-1 : Int32)) rfl dX2_reachableNodes_37 ?_
        refine g_callP (g_runSN B hN (PM.met (c_X5_isNode_m l (D := D) (cI := cI) (cL := cL) (cZ := cZ)  )) (gPp.pre (av := [.int (-1 : Int32)]) (wc := []) hK hN [] rfl (by decide)) gX2_reachableNodes_X5_isNode_n39 (List.mem_of_getElem? (i := 3) rfl) (List.mem_of_getElem? (i := 5) rfl) 8 rfl rfl kd_X5_isNode ⟨by decide, by decide⟩ (st := []) rfl (Nat.le_of_ble_eq_true rfl) dX2_reachableNodes_38 ⟨by decide, by decide⟩) (fun u hu => ?_)
        refine g_if_eq (tgt := 57) B dX2_reachableNodes_41 (by decide) (fun _ => ?_) (fun c7 => absurd (by decide) c7)
        refine g_iinc (lv' := [(0, .ref hp), (1, .long (1 : Int64)), (3, .int (nI k)), (4, .int (nI (j + 1)))]) B dX2_reachableNodes_57 3 rfl (nI_1 j) (by decide) [1, 2, 3, 0] rfl ?_
        refine g_goto (tgt := 13) B dX2_reachableNodes_60 (by decide) ?_
        exact ih13 (j + 1) (by (try dsimp only); omega) (by (try dsimp only); omega)

set_option maxHeartbeats 4000000 in
set_option maxRecDepth 100000 in
theorem k_setQuestion (l : Launch) {D : va_G} {cI cL cZ : ClassId} (hp : Nat) (p0 : Nat) (p1 : Nat) (p2 : Nat) (p3 : Nat) (p4 : Nat) (b1 : Nat) (b2 : Int32) (b3 : Int32) (b4 : Int32) (h1 : b1 < 12) : WM l yX2_setQuestion wsX2_setQuestion ({ frames := 0, cells := 0, slots := 0, locals := 0 } : Room) D (gTys cI cL cZ) [.ref hp, .int (nI b1), .int b2, .int b3, .int b4] [(hp, .inr (2, [.ref p0, .ref p1, .ref p2, .ref p3, .ref p4])), (p0, .inl (cI, 12, .inl (fun _ => (0 : Int32)))), (p1, .inl (cI, 12, .inl (fun _ => (0 : Int32)))), (p2, .inl (cI, 12, .inl (fun _ => (0 : Int32))))] (fun (_ : Unit) => True) (fun (_ : Unit) => none) (fun (_ : Unit) => [(hp, .inr (2, [.ref p0, .ref p1, .ref p2, .ref p3, .ref p4]))]) := by
  refine WM.ofG cX2_setQuestion 5 none (by decide +kernel) rfl (Nat.le_of_ble_eq_true rfl) ?_
  intro p e s m below meth c A hA B hr hlocks hname hK hN
  refine g_aload_n B dX2_setQuestion_0 0 rfl ?_
  refine g_get (C := RX2) (T := TX2) (N := 5) (ci := 2) B hK hin_X2_setQuestion_RX2 0 rfl rfl 0 (by decide) (List.mem_of_getElem? (i := 1) rfl) rfl (v := .ref p0) rfl dX2_setQuestion_1 ?_
  refine g_iload_n B dX2_setQuestion_4 1 rfl ?_
  refine g_iload_n B dX2_setQuestion_5 2 rfl ?_
  refine g_iast B hK 1 0 rfl rfl b1 rfl (by omega) (by omega) (f2 := (upd (fun _ => (0 : Int32)) b1 b2)) (rfl) (w2 := [(hp, .inr (2, [.ref p0, .ref p1, .ref p2, .ref p3, .ref p4])), (p0, .inl (cI, 12, .inl (upd (fun _ => (0 : Int32)) b1 b2))), (p1, .inl (cI, 12, .inl (fun _ => (0 : Int32)))), (p2, .inl (cI, 12, .inl (fun _ => (0 : Int32))))]) rfl (fun _ h => h) dX2_setQuestion_6 ?_
  refine g_aload_n B dX2_setQuestion_7 0 rfl ?_
  refine g_get (C := RX2) (T := TX2) (N := 5) (ci := 2) B hK hin_X2_setQuestion_RX2 0 rfl rfl 1 (by decide) (List.mem_of_getElem? (i := 2) rfl) rfl (v := .ref p1) rfl dX2_setQuestion_8 ?_
  refine g_iload_n B dX2_setQuestion_11 1 rfl ?_
  refine g_iload_n B dX2_setQuestion_12 3 rfl ?_
  refine g_iast B hK 2 0 rfl rfl b1 rfl (by omega) (by omega) (f2 := (upd (fun _ => (0 : Int32)) b1 b3)) (rfl) (w2 := [(hp, .inr (2, [.ref p0, .ref p1, .ref p2, .ref p3, .ref p4])), (p0, .inl (cI, 12, .inl (upd (fun _ => (0 : Int32)) b1 b2))), (p1, .inl (cI, 12, .inl (upd (fun _ => (0 : Int32)) b1 b3))), (p2, .inl (cI, 12, .inl (fun _ => (0 : Int32))))]) rfl (fun _ h => h) dX2_setQuestion_13 ?_
  refine g_aload_n B dX2_setQuestion_14 0 rfl ?_
  refine g_get (C := RX2) (T := TX2) (N := 5) (ci := 2) B hK hin_X2_setQuestion_RX2 0 rfl rfl 2 (by decide) (List.mem_of_getElem? (i := 3) rfl) rfl (v := .ref p2) rfl dX2_setQuestion_15 ?_
  refine g_iload_n B dX2_setQuestion_18 1 rfl ?_
  refine g_iload B dX2_setQuestion_19 4 rfl ?_
  refine g_iast B hK 3 0 rfl rfl b1 rfl (by omega) (by omega) (f2 := (upd (fun _ => (0 : Int32)) b1 b4)) (rfl) (w2 := [(hp, .inr (2, [.ref p0, .ref p1, .ref p2, .ref p3, .ref p4])), (p0, .inl (cI, 12, .inl (upd (fun _ => (0 : Int32)) b1 b2))), (p1, .inl (cI, 12, .inl (upd (fun _ => (0 : Int32)) b1 b3))), (p2, .inl (cI, 12, .inl (upd (fun _ => (0 : Int32)) b1 b4)))]) rfl (fun _ h => h) dX2_setQuestion_21 ?_
  exact g_vret_w B hr hlocks () (rfl) (trivial) [0] (by decide) rfl dX2_setQuestion_22

set_option maxHeartbeats 4000000 in
set_option maxRecDepth 100000 in
theorem k_setQuestion_same (l : Launch) {D : va_G} {cI cL cZ : ClassId} (hp : Nat) (p0 : Nat) (p1 : Nat) (p2 : Nat) (p3 : Nat) (p4 : Nat) (b1 : Nat) (b2 : Int32) (b3 : Int32) (b4 : Int32) (u0 : Nat → Int32) (u1 : Nat → Int32) (u2 : Nat → Int32) (h1 : b1 < 12) : WM l yX2_setQuestion wsX2_setQuestion ({ frames := 0, cells := 0, slots := 0, locals := 0 } : Room) D (gTys cI cL cZ) [.ref hp, .int (nI b1), .int b2, .int b3, .int b4] [(hp, .inr (2, [.ref p0, .ref p1, .ref p2, .ref p3, .ref p4])), (p0, .inl (cI, 12, .inl u0)), (p1, .inl (cI, 12, .inl u1)), (p2, .inl (cI, 12, .inl u2))] (fun (_ : Unit) => True) (fun (_ : Unit) => none) (fun (_ : Unit) => [(hp, .inr (2, [.ref p0, .ref p1, .ref p2, .ref p3, .ref p4]))]) := by
  refine WM.ofG cX2_setQuestion 5 none (by decide +kernel) rfl (Nat.le_of_ble_eq_true rfl) ?_
  intro p e s m below meth c A hA B hr hlocks hname hK hN
  refine g_aload_n B dX2_setQuestion_0 0 rfl ?_
  refine g_get (C := RX2) (T := TX2) (N := 5) (ci := 2) B hK hin_X2_setQuestion_RX2 0 rfl rfl 0 (by decide) (List.mem_of_getElem? (i := 1) rfl) rfl (v := .ref p0) rfl dX2_setQuestion_1 ?_
  refine g_iload_n B dX2_setQuestion_4 1 rfl ?_
  refine g_iload_n B dX2_setQuestion_5 2 rfl ?_
  refine g_iast B hK 1 0 rfl rfl b1 rfl (by omega) (by omega) (f2 := (upd u0 b1 b2)) (rfl) (w2 := [(hp, .inr (2, [.ref p0, .ref p1, .ref p2, .ref p3, .ref p4])), (p0, .inl (cI, 12, .inl (upd u0 b1 b2))), (p1, .inl (cI, 12, .inl u1)), (p2, .inl (cI, 12, .inl u2))]) rfl (fun _ h => h) dX2_setQuestion_6 ?_
  refine g_aload_n B dX2_setQuestion_7 0 rfl ?_
  refine g_get (C := RX2) (T := TX2) (N := 5) (ci := 2) B hK hin_X2_setQuestion_RX2 0 rfl rfl 1 (by decide) (List.mem_of_getElem? (i := 2) rfl) rfl (v := .ref p1) rfl dX2_setQuestion_8 ?_
  refine g_iload_n B dX2_setQuestion_11 1 rfl ?_
  refine g_iload_n B dX2_setQuestion_12 3 rfl ?_
  refine g_iast B hK 2 0 rfl rfl b1 rfl (by omega) (by omega) (f2 := (upd u1 b1 b3)) (rfl) (w2 := [(hp, .inr (2, [.ref p0, .ref p1, .ref p2, .ref p3, .ref p4])), (p0, .inl (cI, 12, .inl (upd u0 b1 b2))), (p1, .inl (cI, 12, .inl (upd u1 b1 b3))), (p2, .inl (cI, 12, .inl u2))]) rfl (fun _ h => h) dX2_setQuestion_13 ?_
  refine g_aload_n B dX2_setQuestion_14 0 rfl ?_
  refine g_get (C := RX2) (T := TX2) (N := 5) (ci := 2) B hK hin_X2_setQuestion_RX2 0 rfl rfl 2 (by decide) (List.mem_of_getElem? (i := 3) rfl) rfl (v := .ref p2) rfl dX2_setQuestion_15 ?_
  refine g_iload_n B dX2_setQuestion_18 1 rfl ?_
  refine g_iload B dX2_setQuestion_19 4 rfl ?_
  refine g_iast B hK 3 0 rfl rfl b1 rfl (by omega) (by omega) (f2 := (upd u2 b1 b4)) (rfl) (w2 := [(hp, .inr (2, [.ref p0, .ref p1, .ref p2, .ref p3, .ref p4])), (p0, .inl (cI, 12, .inl (upd u0 b1 b2))), (p1, .inl (cI, 12, .inl (upd u1 b1 b3))), (p2, .inl (cI, 12, .inl (upd u2 b1 b4)))]) rfl (fun _ h => h) dX2_setQuestion_21 ?_
  exact g_vret_w B hr hlocks () (rfl) (trivial) [0] (by decide) rfl dX2_setQuestion_22

set_option maxHeartbeats 4000000 in
set_option maxRecDepth 100000 in
theorem k_setTargets (l : Launch) {D : va_G} {cI cL cZ : ClassId} (hp : Nat) (p0 : Nat) (p1 : Nat) (p2 : Nat) (p3 : Nat) (p4 : Nat) (b1 : Nat) (b2 : Int32) (b3 : Int32) (h1 : b1 < 12) : WM l yX2_setTargets wsX2_setTargets ({ frames := 0, cells := 0, slots := 0, locals := 0 } : Room) D (gTys cI cL cZ) [.ref hp, .int (nI b1), .int b2, .int b3] [(hp, .inr (2, [.ref p0, .ref p1, .ref p2, .ref p3, .ref p4])), (p3, .inl (cI, 24, .inl (fun _ => (-1 : Int32))))] (fun (_ : Unit) => True) (fun (_ : Unit) => none) (fun (_ : Unit) => [(hp, .inr (2, [.ref p0, .ref p1, .ref p2, .ref p3, .ref p4]))]) := by
  refine WM.ofG cX2_setTargets 4 none (by decide +kernel) rfl (Nat.le_of_ble_eq_true rfl) ?_
  intro p e s m below meth c A hA B hr hlocks hname hK hN
  refine g_aload_n B dX2_setTargets_0 0 rfl ?_
  refine g_get (C := RX2) (T := TX2) (N := 5) (ci := 2) B hK hin_X2_setTargets_RX2 0 rfl rfl 3 (by decide) (List.mem_of_getElem? (i := 1) rfl) rfl (v := .ref p3) rfl dX2_setTargets_1 ?_
  refine g_iconst (v := (2 : Int32)) B dX2_setTargets_4 (by decide) ?_
  refine g_iload_n B dX2_setTargets_5 1 rfl ?_
  refine g_imul (v := nI (2 * b1)) B dX2_setTargets_6 (pk_mul 2 b1) ?_
  refine g_iload_n B dX2_setTargets_7 2 rfl ?_
  refine g_iast B hK 1 0 rfl rfl (2 * b1) rfl (by omega) (by omega) (f2 := (upd (fun _ => (-1 : Int32)) (2 * b1) b2)) (rfl) (w2 := [(hp, .inr (2, [.ref p0, .ref p1, .ref p2, .ref p3, .ref p4])), (p3, .inl (cI, 24, .inl (upd (fun _ => (-1 : Int32)) (2 * b1) b2)))]) rfl (fun _ h => h) dX2_setTargets_8 ?_
  refine g_aload_n B dX2_setTargets_9 0 rfl ?_
  refine g_get (C := RX2) (T := TX2) (N := 5) (ci := 2) B hK hin_X2_setTargets_RX2 0 rfl rfl 3 (by decide) (List.mem_of_getElem? (i := 1) rfl) rfl (v := .ref p3) rfl dX2_setTargets_10 ?_
  refine g_iconst (v := (2 : Int32)) B dX2_setTargets_13 (by decide) ?_
  refine g_iload_n B dX2_setTargets_14 1 rfl ?_
  refine g_imul (v := nI (2 * b1)) B dX2_setTargets_15 (pk_mul 2 b1) ?_
  refine g_iconst (v := (1 : Int32)) B dX2_setTargets_16 (by decide) ?_
  refine g_iadd (v := nI ((2 * b1) + 1)) B dX2_setTargets_17 (nI_add (2 * b1) 1) ?_
  refine g_iload_n B dX2_setTargets_18 3 rfl ?_
  refine g_iast B hK 1 0 rfl rfl ((2 * b1) + 1) rfl (by omega) (by omega) (f2 := (upd (upd (fun _ => (-1 : Int32)) (2 * b1) b2) ((2 * b1) + 1) b3)) (rfl) (w2 := [(hp, .inr (2, [.ref p0, .ref p1, .ref p2, .ref p3, .ref p4])), (p3, .inl (cI, 24, .inl (upd (upd (fun _ => (-1 : Int32)) (2 * b1) b2) ((2 * b1) + 1) b3)))]) rfl (fun _ h => h) dX2_setTargets_19 ?_
  exact g_vret_w B hr hlocks () (rfl) (trivial) [0] (by decide) rfl dX2_setTargets_20

set_option maxHeartbeats 4000000 in
set_option maxRecDepth 100000 in
theorem k_setBad (l : Launch) {D : va_G} {cI cL cZ : ClassId} (hp : Nat) (p0 : Nat) (p1 : Nat) (p2 : Nat) (p3 : Nat) (p4 : Nat) (b1 : Nat) (b2 : Int32) (h1 : b1 < 12) : WM l yX2_setBad wsX2_setBad ({ frames := 0, cells := 0, slots := 0, locals := 0 } : Room) D (gTys cI cL cZ) [.ref hp, .int (nI b1), .int b2] [(hp, .inr (2, [.ref p0, .ref p1, .ref p2, .ref p3, .ref p4])), (p4, .inl (cZ, 12, .inl (fun _ => (0 : Int32))))] (fun (_ : Unit) => True) (fun (_ : Unit) => none) (fun (_ : Unit) => [(hp, .inr (2, [.ref p0, .ref p1, .ref p2, .ref p3, .ref p4]))]) := by
  refine WM.ofG cX2_setBad 3 none (by decide +kernel) rfl (Nat.le_of_ble_eq_true rfl) ?_
  intro p e s m below meth c A hA B hr hlocks hname hK hN
  refine g_aload_n B dX2_setBad_0 0 rfl ?_
  refine g_get (C := RX2) (T := TX2) (N := 5) (ci := 2) B hK hin_X2_setBad_RX2 0 rfl rfl 4 (by decide) (List.mem_of_getElem? (i := 1) rfl) rfl (v := .ref p4) rfl dX2_setBad_1 ?_
  refine g_iload_n B dX2_setBad_4 1 rfl ?_
  refine g_iload_n B dX2_setBad_5 2 rfl ?_
  refine g_zast B hK 1 2 rfl rfl b1 rfl (by omega) (by omega) (f2 := (upd (fun _ => (0 : Int32)) b1 (vp_nar .boolean b2))) (rfl) (w2 := [(hp, .inr (2, [.ref p0, .ref p1, .ref p2, .ref p3, .ref p4])), (p4, .inl (cZ, 12, .inl (upd (fun _ => (0 : Int32)) b1 (vp_nar .boolean b2))))]) rfl (fun _ h => h) dX2_setBad_6 ?_
  exact g_vret_w B hr hlocks () (rfl) (trivial) [0] (by decide) rfl dX2_setBad_7

