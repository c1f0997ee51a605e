/-! the class: trace, program -/
theorem kd_X2_follow : yX2_follow.cls ≠ "java/lang/invoke/MethodHandle" ∧ yX2_follow.cls ≠ "java/lang/invoke/VarHandle" ∧ (parseMethodDescriptor yX2_follow.desc).map (fun d => d.parameters.length) = some 2 := by decide +kernel
theorem kd_X2_isSo : yX2_isSo.cls ≠ "java/lang/invoke/MethodHandle" ∧ yX2_isSo.cls ≠ "java/lang/invoke/VarHandle" ∧ (parseMethodDescriptor yX2_isSo.desc).map (fun d => d.parameters.length) = some 2 := by decide +kernel
theorem kd_X4_begin : yX4_begin.cls ≠ "java/lang/invoke/MethodHandle" ∧ yX4_begin.cls ≠ "java/lang/invoke/VarHandle" ∧ (parseMethodDescriptor yX4_begin.desc).map (fun d => d.parameters.length) = some 0 := by decide +kernel
theorem kd_X4_fail : yX4_fail.cls ≠ "java/lang/invoke/MethodHandle" ∧ yX4_fail.cls ≠ "java/lang/invoke/VarHandle" ∧ (parseMethodDescriptor yX4_fail.desc).map (fun d => d.parameters.length) = some 1 := by decide +kernel
theorem kd_X4_goOver : yX4_goOver.cls ≠ "java/lang/invoke/MethodHandle" ∧ yX4_goOver.cls ≠ "java/lang/invoke/VarHandle" ∧ (parseMethodDescriptor yX4_goOver.desc).map (fun d => d.parameters.length) = some 1 := by decide +kernel
theorem kd_X5_bit : yX5_bit.cls ≠ "java/lang/invoke/MethodHandle" ∧ yX5_bit.cls ≠ "java/lang/invoke/VarHandle" ∧ (parseMethodDescriptor yX5_bit.desc).map (fun d => d.parameters.length) = some 1 := by decide +kernel
theorem kd_X5_contains : yX5_contains.cls ≠ "java/lang/invoke/MethodHandle" ∧ yX5_contains.cls ≠ "java/lang/invoke/VarHandle" ∧ (parseMethodDescriptor yX5_contains.desc).map (fun d => d.parameters.length) = some 2 := by decide +kernel
theorem kd_X5_outcomeOf : yX5_outcomeOf.cls ≠ "java/lang/invoke/MethodHandle" ∧ yX5_outcomeOf.cls ≠ "java/lang/invoke/VarHandle" ∧ (parseMethodDescriptor yX5_outcomeOf.desc).map (fun d => d.parameters.length) = some 1 := by decide +kernel
theorem hin_X2_follow_RX2 : ∀ z ∈ u_ws RX2 TX2 5, z ∈ wsX2_follow := by decide +kernel
theorem hin_X2_isSo_RX2 : ∀ z ∈ u_ws RX2 TX2 5, z ∈ wsX2_isSo := by decide +kernel
theorem hin_X2_reachableNodes_RX2 : ∀ z ∈ u_ws RX2 TX2 5, z ∈ wsX2_reachableNodes := by decide +kernel
theorem hin_X2_setBad_RX2 : ∀ z ∈ u_ws RX2 TX2 5, z ∈ wsX2_setBad := by decide +kernel
theorem hin_X2_setQuestion_RX2 : ∀ z ∈ u_ws RX2 TX2 5, z ∈ wsX2_setQuestion := by decide +kernel
theorem hin_X2_setTargets_RX2 : ∀ z ∈ u_ws RX2 TX2 5, z ∈ wsX2_setTargets := by decide +kernel
theorem hin_X4_begin_RX4 : ∀ z ∈ u_ws RX4 TX4 4, z ∈ wsX4_begin := by decide +kernel
theorem hin_X4_fail_RX4 : ∀ z ∈ u_ws RX4 TX4 4, z ∈ wsX4_fail := by decide +kernel
theorem hin_X4_goOver_RX4 : ∀ z ∈ u_ws RX4 TX4 4, z ∈ wsX4_goOver := by decide +kernel
theorem hin_X5_resultOf_RX4 : ∀ z ∈ u_ws RX4 TX4 4, z ∈ wsX5_resultOf := by decide +kernel
theorem hin_X5_resultOf_RX5 : ∀ z ∈ u_ws RX5 TX5 5, z ∈ wsX5_resultOf := by decide +kernel
set_option maxHeartbeats 4000000 in
set_option maxRecDepth 100000 in
theorem k_begin (l : Launch) {D : va_G} {cI cL cZ cQ : ClassId} (ht : Nat) (t0 : Nat) (ts : Int32) (tr : Int32) (tf : Int64)  : WM l yX4_begin wsX4_begin ({ frames := 0, cells := 0, slots := 0, locals := 0 } : Room) D (gTys cI cL cZ cQ) [.ref ht] [(ht, .inr (4, [.ref t0, .int ts, .int tr, .long tf]))] (fun (_ : Unit) => True) (fun (_ : Unit) => none) (fun (_ : Unit) => [(ht, .inr (4, [.ref t0, .int (0 : Int32), .int (-1 : Int32), .long (0 : Int64)]))]) := by
  refine WM.ofG cX4_begin 1 none (by decide +kernel) rfl (Nat.le_of_ble_eq_true rfl) ?_
  intro p e s m below meth c A hA B hr hlocks hname hK hN
  refine g_aload_n B dX4_begin_0 0 rfl ?_
  refine g_iconst (v := (0 : Int32)) B dX4_begin_1 (by decide) ?_
  refine g_put (C := RX4) (T := TX4) (N := 4) (ci := 4) B hK hin_X4_begin_RX4 0 rfl rfl 1 (by decide) tyX4 tyX4_ok nmX4 (List.mem_of_getElem? (i := 1) rfl) rfl rfl (ty := .int) (v := .int (0 : Int32)) (by decide +kernel) rfl rfl (Nat.le_of_ble_eq_true rfl) (w2 := [(ht, .inr (4, [.ref t0, .int (0 : Int32), .int tr, .long tf]))]) rfl (fun _ h => h) dX4_begin_2 ?_
  refine g_aload_n B dX4_begin_5 0 rfl ?_
  refine g_lconst (v := (0 : Int64)) B dX4_begin_6 rfl ?_
  refine g_put (C := RX4) (T := TX4) (N := 4) (ci := 4) B hK hin_X4_begin_RX4 0 rfl rfl 3 (by decide) tyX4 tyX4_ok nmX4 (List.mem_of_getElem? (i := 2) rfl) rfl rfl (ty := .long) (v := .long (0 : Int64)) (by decide +kernel) rfl rfl (Nat.le_of_ble_eq_true rfl) (w2 := [(ht, .inr (4, [.ref t0, .int (0 : Int32), .int tr, .long (0 : Int64)]))]) rfl (fun _ h => h) dX4_begin_7 ?_
  refine g_aload_n B dX4_begin_10 0 rfl ?_
  refine g_iconst (v := (-1 : Int32)) B dX4_begin_11 (by decide) ?_
  refine g_put (C := RX4) (T := TX4) (N := 4) (ci := 4) B hK hin_X4_begin_RX4 0 rfl rfl 2 (by decide) tyX4 tyX4_ok nmX4 (List.mem_of_getElem? (i := 3) rfl) rfl rfl (ty := .int) (v := .int (-1 : Int32)) (by decide +kernel) rfl rfl (Nat.le_of_ble_eq_true rfl) (w2 := [(ht, .inr (4, [.ref t0, .int (0 : Int32), .int (-1 : Int32), .long (0 : Int64)]))]) rfl (fun _ h => h) dX4_begin_12 ?_
  exact g_vret_w B hr hlocks () (rfl) (trivial) [0] (by decide) rfl dX4_begin_15

set_option maxHeartbeats 4000000 in
set_option maxRecDepth 100000 in
theorem k_goOver (l : Launch) {D : va_G} {cI cL cZ cQ : ClassId} (ht : Nat) (t0 : Nat) (k : Nat) (ed : Nat) (fp : Nat → Int32) (tr : Int32) (tf : Int64) (hk : k < 30) (he : ed < 24) : WM l yX4_goOver wsX4_goOver ({ frames := 1, cells := 0, slots := 0, locals := 20 } : Room) D (gTys cI cL cZ cQ) [.ref ht, .int (nI ed)] [(ht, .inr (4, [.ref t0, .int (nI k), .int tr, .long tf])), (t0, .inl (cI, 30, .inl fp))] (fun (_ : Unit) => True) (fun (_ : Unit) => none) (fun (_ : Unit) => [(ht, .inr (4, [.ref t0, .int (nI (k + 1)), .int (nI ed), .long (tf ||| lShl 1 (nI ed))])), (t0, .inl (cI, 30, .inl (upd fp k (nI ed))))]) := by
  refine WM.ofG cX4_goOver 2 none (by decide +kernel) rfl (Nat.le_of_ble_eq_true rfl) ?_
  intro p e s m below meth c A hA B hr hlocks hname hK hN
  refine g_aload_n B dX4_goOver_0 0 rfl ?_
  refine g_get (C := RX4) (T := TX4) (N := 4) (ci := 4) B hK hin_X4_goOver_RX4 0 rfl rfl 1 (by decide) (List.mem_of_getElem? (i := 1) rfl) rfl (v := .int (nI k)) rfl dX4_goOver_1 ?_
  refine g_bipush (v := (30 : Int32)) B dX4_goOver_4 (by decide) ?_
  refine g_ncmp_ge (tgt := 29) B k 30 rfl rfl (by omega) (by omega) dX4_goOver_6 (by decide) (fun c2 => ?_) (fun c2 => ?_)
  · exfalso; omega
  refine g_aload_n B dX4_goOver_9 0 rfl ?_
  refine g_get (C := RX4) (T := TX4) (N := 4) (ci := 4) B hK hin_X4_goOver_RX4 0 rfl rfl 0 (by decide) (List.mem_of_getElem? (i := 2) rfl) rfl (v := .ref t0) rfl dX4_goOver_10 ?_
  refine g_aload_n B dX4_goOver_13 0 rfl ?_
  refine g_get (C := RX4) (T := TX4) (N := 4) (ci := 4) B hK hin_X4_goOver_RX4 0 rfl rfl 1 (by decide) (List.mem_of_getElem? (i := 1) rfl) rfl (v := .int (nI k)) rfl dX4_goOver_14 ?_
  refine g_iload_n B dX4_goOver_17 1 rfl ?_
  refine g_iast B hK 1 0 rfl rfl k rfl (by omega) (by omega) (f2 := (upd fp k (nI ed))) (rfl) (w2 := [(ht, .inr (4, [.ref t0, .int (nI k), .int tr, .long tf])), (t0, .inl (cI, 30, .inl (upd fp k (nI ed))))]) rfl (fun _ h => h) dX4_goOver_18 ?_
  refine g_aload_n B dX4_goOver_19 0 rfl ?_
  refine g_dup B dX4_goOver_20 rfl ?_
  refine g_get (C := RX4) (T := TX4) (N := 4) (ci := 4) B hK hin_X4_goOver_RX4 0 rfl rfl 1 (by decide) (List.mem_of_getElem? (i := 1) rfl) rfl (v := .int (nI k)) rfl dX4_goOver_21 ?_
  refine g_iconst (v := (1 : Int32)) B dX4_goOver_24 (by decide) ?_
  refine g_iadd (v := nI (k + 1)) B dX4_goOver_25 (nI_add k 1) ?_
  refine g_put (C := RX4) (T := TX4) (N := 4) (ci := 4) B hK hin_X4_goOver_RX4 0 rfl rfl 1 (by decide) tyX4 tyX4_ok nmX4 (List.mem_of_getElem? (i := 1) rfl) rfl rfl (ty := .int) (v := .int (nI (k + 1))) (by decide +kernel) rfl rfl (Nat.le_of_ble_eq_true rfl) (w2 := [(ht, .inr (4, [.ref t0, .int (nI (k + 1)), .int tr, .long tf])), (t0, .inl (cI, 30, .inl (upd fp k (nI ed))))]) rfl (fun _ h => h) dX4_goOver_26 ?_
  refine g_aload_n B dX4_goOver_29 0 rfl ?_
  refine g_dup B dX4_goOver_30 rfl ?_
  refine g_get (C := RX4) (T := TX4) (N := 4) (ci := 4) B hK hin_X4_goOver_RX4 0 rfl rfl 3 (by decide) (List.mem_of_getElem? (i := 3) rfl) rfl (v := .long tf) rfl dX4_goOver_31 ?_
  refine g_iload_n B dX4_goOver_34 1 rfl ?_
  refine g_callP (g_runSN B hN (PM.met (k_bit l (D := D) (cI := cI) (cL := cL) (cZ := cZ) (cQ := cQ) ed (by first | with_reducible assumption | omega | assumption))) (gPp.pre (av := [.int (nI ed)]) (wc := []) hK hN [] rfl (by decide)) gX4_goOver_X5_bit_n26 (List.mem_of_getElem? (i := 6) rfl) (List.mem_of_getElem? (i := 5) rfl) 14 rfl rfl kd_X5_bit ⟨by decide, by decide⟩ (st := [.long tf, .ref ht]) rfl (Nat.le_of_ble_eq_true rfl) dX4_goOver_35 ⟨by decide, by decide⟩) (fun u hu => ?_)
  refine g_lor (v := (tf ||| (lShl 1 (nI ed)))) B dX4_goOver_38 (rfl) ?_
  refine g_put (C := RX4) (T := TX4) (N := 4) (ci := 4) B hK hin_X4_goOver_RX4 0 rfl rfl 3 (by decide) tyX4 tyX4_ok nmX4 (List.mem_of_getElem? (i := 3) rfl) rfl rfl (ty := .long) (v := .long (tf ||| (lShl 1 (nI ed)))) (by decide +kernel) rfl rfl (Nat.le_of_ble_eq_true rfl) (w2 := [(ht, .inr (4, [.ref t0, .int (nI (k + 1)), .int tr, .long (tf ||| (lShl 1 (nI ed)))])), (t0, .inl (cI, 30, .inl (upd fp k (nI ed))))]) rfl (fun _ h => h) dX4_goOver_39 ?_
  refine g_aload_n B dX4_goOver_42 0 rfl ?_
  refine g_iload_n B dX4_goOver_43 1 rfl ?_
  refine g_put (C := RX4) (T := TX4) (N := 4) (ci := 4) B hK hin_X4_goOver_RX4 0 rfl rfl 2 (by decide) tyX4 tyX4_ok nmX4 (List.mem_of_getElem? (i := 4) rfl) rfl rfl (ty := .int) (v := .int (nI ed)) (by decide +kernel) rfl rfl (Nat.le_of_ble_eq_true rfl) (w2 := [(ht, .inr (4, [.ref t0, .int (nI (k + 1)), .int (nI ed), .long (tf ||| (lShl 1 (nI ed)))])), (t0, .inl (cI, 30, .inl (upd fp k (nI ed))))]) rfl (fun _ h => h) dX4_goOver_44 ?_
  exact g_vret_w B hr hlocks () (rfl) (trivial) [0, 1] (by decide) rfl dX4_goOver_47

set_option maxHeartbeats 4000000 in
set_option maxRecDepth 100000 in
theorem k_fail (l : Launch) {D : va_G} {cI cL cZ cQ : ClassId} (ht : Nat) (t0 : Nat) (n : Nat) (ts : Int32) (tr : Int32) (tf : Int64) (hn : n ≤ 12) : WM l yX4_fail wsX4_fail ({ frames := 1, cells := 0, slots := 0, locals := 20 } : Room) D (gTys cI cL cZ cQ) [.ref ht, .int (nI n)] [(ht, .inr (4, [.ref t0, .int ts, .int tr, .long tf]))] (fun (_ : Unit) => True) (fun (_ : Unit) => none) (fun (_ : Unit) => [(ht, .inr (4, [.ref t0, .int ts, .int (nI (100 + n)), .long (tf ||| lShl 1 (nI (24 + n)))]))]) := by
  refine WM.ofG cX4_fail 2 none (by decide +kernel) rfl (Nat.le_of_ble_eq_true rfl) ?_
  intro p e s m below meth c A hA B hr hlocks hname hK hN
  refine g_aload_n B dX4_fail_0 0 rfl ?_
  refine g_bipush (v := (100 : Int32)) B dX4_fail_1 (by decide) ?_
  refine g_iload_n B dX4_fail_3 1 rfl ?_
  refine g_iadd (v := nI (100 + n)) B dX4_fail_4 (nI_add 100 n) ?_
  refine g_put (C := RX4) (T := TX4) (N := 4) (ci := 4) B hK hin_X4_fail_RX4 0 rfl rfl 2 (by decide) tyX4 tyX4_ok nmX4 (List.mem_of_getElem? (i := 1) rfl) rfl rfl (ty := .int) (v := .int (nI (100 + n))) (by decide +kernel) rfl rfl (Nat.le_of_ble_eq_true rfl) (w2 := [(ht, .inr (4, [.ref t0, .int ts, .int (nI (100 + n)), .long tf]))]) rfl (fun _ h => h) dX4_fail_5 ?_
  refine g_aload_n B dX4_fail_8 0 rfl ?_
  refine g_dup B dX4_fail_9 rfl ?_
  refine g_get (C := RX4) (T := TX4) (N := 4) (ci := 4) B hK hin_X4_fail_RX4 0 rfl rfl 3 (by decide) (List.mem_of_getElem? (i := 2) rfl) rfl (v := .long tf) rfl dX4_fail_10 ?_
  refine g_aload_n B dX4_fail_13 0 rfl ?_
  refine g_get (C := RX4) (T := TX4) (N := 4) (ci := 4) B hK hin_X4_fail_RX4 0 rfl rfl 2 (by decide) (List.mem_of_getElem? (i := 1) rfl) rfl (v := .int (nI (100 + n))) rfl dX4_fail_14 ?_
  refine g_callP (g_runSN B hN (PM.met (k_outcomeOf l (D := D) (cI := cI) (cL := cL) (cZ := cZ) (cQ := cQ) (100 + n) (by first | with_reducible assumption | omega | assumption))) (gPp.pre (av := [.int (nI (100 + n))]) (wc := []) hK hN [] rfl (by decide)) gX4_fail_X5_outcomeOf_n30 (List.mem_of_getElem? (i := 4) rfl) (List.mem_of_getElem? (i := 3) rfl) 15 rfl rfl kd_X5_outcomeOf ⟨by decide, by decide⟩ (st := [.long tf, .ref ht]) rfl (Nat.le_of_ble_eq_true rfl) dX4_fail_17 ⟨by decide, by decide⟩) (fun u hu => ?_)
  refine g_eqi (y := nI (24 + n)) (by unfold ks_oc; rw [if_neg (by omega)]; congr 1; omega) ?_
  refine g_callP (g_runSN B hN (PM.met (k_bit l (D := D) (cI := cI) (cL := cL) (cZ := cZ) (cQ := cQ) (24 + n) (by first | with_reducible assumption | omega | assumption))) (gPp.pre (av := [.int (nI (24 + n))]) (wc := []) hK hN [] rfl (by decide)) gX4_fail_X5_bit_n26 (List.mem_of_getElem? (i := 4) rfl) (List.mem_of_getElem? (i := 6) rfl) 14 rfl rfl kd_X5_bit ⟨by decide, by decide⟩ (st := [.long tf, .ref ht]) rfl (Nat.le_of_ble_eq_true rfl) dX4_fail_20 ⟨by decide, by decide⟩) (fun u hu => ?_)
  refine g_lor (v := (tf ||| (lShl 1 (nI (24 + n))))) B dX4_fail_23 (rfl) ?_
  refine g_put (C := RX4) (T := TX4) (N := 4) (ci := 4) B hK hin_X4_fail_RX4 0 rfl rfl 3 (by decide) tyX4 tyX4_ok nmX4 (List.mem_of_getElem? (i := 2) rfl) rfl rfl (ty := .long) (v := .long (tf ||| (lShl 1 (nI (24 + n))))) (by decide +kernel) rfl rfl (Nat.le_of_ble_eq_true rfl) (w2 := [(ht, .inr (4, [.ref t0, .int ts, .int (nI (100 + n)), .long (tf ||| (lShl 1 (nI (24 + n))))]))]) rfl (fun _ h => h) dX4_fail_24 ?_
  exact g_vret_w B hr hlocks () (rfl) (trivial) [0] (by decide) rfl dX4_fail_27

set_option maxHeartbeats 4000000 in
set_option maxRecDepth 100000 in
theorem k_isSo (l : Launch) {D : va_G} {cI cL cZ cQ : ClassId} (hp : Nat) (p0 : Nat) (p1 : Nat) (p2 : Nat) (p3 : Nat) (p4 : Nat) (P : Pg) (n : Nat) (t : Nat) (hn : n < 12) (ht1 : t < 10000) (hW : ks_WP P) : PM l yX2_isSo wsX2_isSo ({ frames := 1, cells := 0, slots := 0, locals := 21 } : Room) D (gTys cI cL cZ cQ) [.ref hp, .int (nI n), .int (nI t)] [(hp, .inr (2, [.ref p0, .ref p1, .ref p2, .ref p3, .ref p4])), (p0, .inl (cI, 12, .inl (fun i => nI (P.1 i)))), (p1, .inl (cI, 12, .inl (fun i => nI (P.2.1 i)))), (p2, .inl (cI, 12, .inl (fun i => nI (P.2.2.1 i))))] (fun (_ : Unit) => True) (fun (_ : Unit) => some (.int (bI (ks_so P n t)))) := by
  refine PM.ofG cX2_isSo 4 (some .boolean) (by decide +kernel) rfl (Nat.le_of_ble_eq_true rfl) ?_
  intro p e s m below meth c B hr hlocks hname hK hN
  have q0 := hW.1 n hn
  have q1 := hW.2.1 n hn
  have q2 := hW.2.2.1 n hn
  have q3 := ks_dg_lt t (P.1 n)
  refine g_iload_n B dX2_isSo_0 2 rfl ?_
  refine g_aload_n B dX2_isSo_1 0 rfl ?_
  refine g_get (C := RX2) (T := TX2) (N := 5) (ci := 2) B hK hin_X2_isSo_RX2 0 rfl rfl 0 (by decide) (List.mem_of_getElem? (i := 1) rfl) rfl (v := .ref p0) rfl dX2_isSo_2 ?_
  refine g_iload_n B dX2_isSo_5 1 rfl ?_
  refine g_iald B hK 1 0 rfl rfl n rfl (by omega) (by omega) (v := nI (P.1 n)) rfl dX2_isSo_6 ?_
  refine g_callP (g_runSN B hN (PM.met (k_valueOf l (D := D) (cI := cI) (cL := cL) (cZ := cZ) (cQ := cQ) t (P.1 n) (by first | with_reducible assumption | omega | assumption) (by first | with_reducible assumption | omega | assumption))) (gPp.pre (av := [.int (nI t), .int (nI (P.1 n))]) (wc := []) hK hN [] rfl (by decide)) gX2_isSo_X5_valueOf_n54 (List.mem_of_getElem? (i := 5) rfl) (List.mem_of_getElem? (i := 4) rfl) 9 rfl rfl kd_X5_valueOf ⟨by decide, by decide⟩ (st := []) rfl (Nat.le_of_ble_eq_true rfl) dX2_isSo_7 ⟨by decide, by decide⟩) (fun u hu => ?_)
  refine g_istore_n (lv' := [(0, .ref hp), (1, .int (nI n)), (2, .int (nI t)), (3, .int (nI (ks_dg t (P.1 n))))]) B dX2_isSo_10 rfl (by decide) [1, 2, 3, 0] rfl ?_
  refine g_aload_n B dX2_isSo_11 0 rfl ?_
  refine g_get (C := RX2) (T := TX2) (N := 5) (ci := 2) B hK hin_X2_isSo_RX2 0 rfl rfl 1 (by decide) (List.mem_of_getElem? (i := 2) rfl) rfl (v := .ref p1) rfl dX2_isSo_12 ?_
  refine g_iload_n B dX2_isSo_15 1 rfl ?_
  refine g_iald B hK 2 0 rfl rfl n rfl (by omega) (by omega) (v := nI (P.2.1 n)) rfl dX2_isSo_16 ?_
  rcases (show (P.2.1 n) = 0 ∨ (P.2.1 n) = 1 ∨ (P.2.1 n) = 2 by omega) with c2 | c2 | c2
  · refine g_eqi (y := (0 : Int32)) (by rw [c2]; rfl) ?_
    refine g_lookup (off := 27) (tgt := 44) B dX2_isSo_17 (by decide) (by decide) (by decide) ?_
    refine g_iload_n B dX2_isSo_44 3 rfl ?_
    refine g_aload_n B dX2_isSo_45 0 rfl ?_
    refine g_get (C := RX2) (T := TX2) (N := 5) (ci := 2) B hK hin_X2_isSo_RX2 0 rfl rfl 2 (by decide) (List.mem_of_getElem? (i := 3) rfl) rfl (v := .ref p2) rfl dX2_isSo_46 ?_
    refine g_iload_n B dX2_isSo_49 1 rfl ?_
    refine g_iald B hK 3 0 rfl rfl n rfl (by omega) (by omega) (v := nI (P.2.2.1 n)) rfl dX2_isSo_50 ?_
    refine g_ncmp_ge (tgt := 58) B (ks_dg t (P.1 n)) (P.2.2.1 n) rfl rfl (by omega) (by omega) dX2_isSo_51 (by decide) (fun c4 => ?_) (fun c4 => ?_)
    · refine g_iconst (v := (0 : Int32)) B dX2_isSo_58 (by decide) ?_
      exact g_iret_p B hr rfl hlocks () (by rw [show ks_so P n t = false from by unfold ks_so; rw [c2]; simp; omega]; rfl) (trivial) dX2_isSo_59
    · refine g_iconst (v := (1 : Int32)) B dX2_isSo_54 (by decide) ?_
      refine g_goto (tgt := 59) B dX2_isSo_55 (by decide) ?_
      exact g_iret_p B hr rfl hlocks () (by rw [show ks_so P n t = true from by unfold ks_so; rw [c2]; simp; omega]; rfl) (trivial) dX2_isSo_59
  · refine g_eqi (y := (1 : Int32)) (by rw [c2]; rfl) ?_
    refine g_lookup (off := 43) (tgt := 60) B dX2_isSo_17 (by decide) (by decide) (by decide) ?_
    refine g_iload_n B dX2_isSo_60 3 rfl ?_
    refine g_aload_n B dX2_isSo_61 0 rfl ?_
    refine g_get (C := RX2) (T := TX2) (N := 5) (ci := 2) B hK hin_X2_isSo_RX2 0 rfl rfl 2 (by decide) (List.mem_of_getElem? (i := 3) rfl) rfl (v := .ref p2) rfl dX2_isSo_62 ?_
    refine g_iload_n B dX2_isSo_65 1 rfl ?_
    refine g_iald B hK 3 0 rfl rfl n rfl (by omega) (by omega) (v := nI (P.2.2.1 n)) rfl dX2_isSo_66 ?_
    refine g_ncmp_ne (tgt := 74) B (ks_dg t (P.1 n)) (P.2.2.1 n) rfl rfl (by omega) (by omega) dX2_isSo_67 (by decide) (fun c6 => ?_) (fun c6 => ?_)
    · refine g_iconst (v := (0 : Int32)) B dX2_isSo_74 (by decide) ?_
      exact g_iret_p B hr rfl hlocks () (by rw [show ks_so P n t = false from by unfold ks_so; rw [c2]; simp; omega]; rfl) (trivial) dX2_isSo_75
    · refine g_iconst (v := (1 : Int32)) B dX2_isSo_70 (by decide) ?_
      refine g_goto (tgt := 75) B dX2_isSo_71 (by decide) ?_
      exact g_iret_p B hr rfl hlocks () (by rw [show ks_so P n t = true from by unfold ks_so; rw [c2]; simp; omega]; rfl) (trivial) dX2_isSo_75
  · refine g_eqi (y := (2 : Int32)) (by rw [c2]; rfl) ?_
    refine g_lookup (off := 59) (tgt := 76) B dX2_isSo_17 (by decide) (by decide) (by decide) ?_
    refine g_iload_n B dX2_isSo_76 3 rfl ?_
    refine g_aload_n B dX2_isSo_77 0 rfl ?_
    refine g_get (C := RX2) (T := TX2) (N := 5) (ci := 2) B hK hin_X2_isSo_RX2 0 rfl rfl 2 (by decide) (List.mem_of_getElem? (i := 3) rfl) rfl (v := .ref p2) rfl dX2_isSo_78 ?_
    refine g_iload_n B dX2_isSo_81 1 rfl ?_
    refine g_iald B hK 3 0 rfl rfl n rfl (by omega) (by omega) (v := nI (P.2.2.1 n)) rfl dX2_isSo_82 ?_
    refine g_ncmp_le (tgt := 90) B (ks_dg t (P.1 n)) (P.2.2.1 n) rfl rfl (by omega) (by omega) dX2_isSo_83 (by decide) (fun c8 => ?_) (fun c8 => ?_)
    · refine g_iconst (v := (0 : Int32)) B dX2_isSo_90 (by decide) ?_
      exact g_iret_p B hr rfl hlocks () (by rw [show ks_so P n t = false from by unfold ks_so; rw [c2]; simp; omega]; rfl) (trivial) dX2_isSo_91
    · refine g_iconst (v := (1 : Int32)) B dX2_isSo_86 (by decide) ?_
      refine g_goto (tgt := 91) B dX2_isSo_87 (by decide) ?_
      exact g_iret_p B hr rfl hlocks () (by rw [show ks_so P n t = true from by unfold ks_so; rw [c2]; simp; omega]; rfl) (trivial) dX2_isSo_91

set_option maxHeartbeats 4000000 in
set_option maxRecDepth 100000 in
theorem k_follow (l : Launch) {D : va_G} {cI cL cZ cQ : ClassId} (hp : Nat) (p0 : Nat) (p1 : Nat) (p2 : Nat) (p3 : Nat) (p4 : Nat) (P : Pg) (ht : Nat) (t0 : Nat) (fp : Nat → Int32) (ts : Int32) (tr : Int32) (tf : Int64) (t : Nat) (ht1 : t < 10000) (hW : ks_WP P) : WM l yX2_follow wsX2_follow ({ frames := 2, cells := 0, slots := 0, locals := 44 } : Room) D (gTys cI cL cZ cQ) [.ref hp, .int (nI t), .ref ht] [(hp, .inr (2, [.ref p0, .ref p1, .ref p2, .ref p3, .ref p4])), (p0, .inl (cI, 12, .inl (fun i => nI (P.1 i)))), (p1, .inl (cI, 12, .inl (fun i => nI (P.2.1 i)))), (p2, .inl (cI, 12, .inl (fun i => nI (P.2.2.1 i)))), (p3, .inl (cI, 24, .inl (fun i => ks_tI (P.2.2.2.1 i)))), (p4, .inl (cZ, 12, .inl (fun i => bI (P.2.2.2.2 i)))), (ht, .inr (4, [.ref t0, .int ts, .int tr, .long tf])), (t0, .inl (cI, 30, .inl fp))] (fun (fp2 : Nat → Int32) => ∀ j, j < ks_st P t → fp2 j = nI (ks_ek P t j)) (fun (fp2 : Nat → Int32) => none) (fun (fp2 : Nat → Int32) => [(hp, .inr (2, [.ref p0, .ref p1, .ref p2, .ref p3, .ref p4])), (p0, .inl (cI, 12, .inl (fun i => nI (P.1 i)))), (p1, .inl (cI, 12, .inl (fun i => nI (P.2.1 i)))), (p2, .inl (cI, 12, .inl (fun i => nI (P.2.2.1 i)))), (p3, .inl (cI, 24, .inl (fun i => ks_tI (P.2.2.2.1 i)))), (p4, .inl (cZ, 12, .inl (fun i => bI (P.2.2.2.2 i)))), (ht, .inr (4, [.ref t0, .int (nI (ks_st P t)), .int (nI (ks_rs P t)), .long (ks_fd P t)])), (t0, .inl (cI, 30, .inl fp2))]) := by
  refine WM.ofG cX2_follow 6 none (by decide +kernel) rfl (Nat.le_of_ble_eq_true rfl) ?_
  intro p e s m below meth c A hA B hr hlocks hname hK hN
  refine g_aload_n B dX2_follow_0 2 rfl ?_
  refine g_callW (w2 := (fun (_ : Unit) => [(hp, .inr (2, [.ref p0, .ref p1, .ref p2, .ref p3, .ref p4])), (p0, .inl (cI, 12, .inl (fun i => nI (P.1 i)))), (p1, .inl (cI, 12, .inl (fun i => nI (P.2.1 i)))), (p2, .inl (cI, 12, .inl (fun i => nI (P.2.2.1 i)))), (p3, .inl (cI, 24, .inl (fun i => ks_tI (P.2.2.2.1 i)))), (p4, .inl (cZ, 12, .inl (fun i => bI (P.2.2.2.2 i)))), (ht, .inr (4, [.ref t0, .int (0 : Int32), .int (-1 : Int32), .long (0 : Int64)])), (t0, .inl (cI, 30, .inl fp))])) (g_runV (q0 := 6) (ci := 4) B hK rfl rfl (k_begin l (D := D) (cI := cI) (cL := cL) (cZ := cZ) (cQ := cQ) ht t0 ts tr tf ) (gPw.pre (av := [.ref ht]) (wc := [(ht, .inr (4, [.ref t0, .int ts, .int tr, .long tf]))]) hK hN [6] rfl (by decide)) gX2_follow_X4_begin rfl rfl kd_X4_begin ⟨by decide, by decide⟩ (st := []) rfl (Nat.le_of_ble_eq_true rfl) dX2_follow_1 ⟨by decide, by decide⟩) hA (fun _ h => h) [6] [0, 1, 2, 3, 4, 5, 7] (wr := [(hp, .inr (2, [.ref p0, .ref p1, .ref p2, .ref p3, .ref p4])), (p0, .inl (cI, 12, .inl (fun i => nI (P.1 i)))), (p1, .inl (cI, 12, .inl (fun i => nI (P.2.1 i)))), (p2, .inl (cI, 12, .inl (fun i => nI (P.2.2.1 i)))), (p3, .inl (cI, 24, .inl (fun i => ks_tI (P.2.2.2.1 i)))), (p4, .inl (cZ, 12, .inl (fun i => bI (P.2.2.2.2 i)))), (t0, .inl (cI, 30, .inl fp))]) rfl rfl (by decide) (by decide) [0, 1, 2, 3, 4, 5, 7, 6] (by decide) (fun _ => rfl) (fun u hu => ?_)
  refine g_iconst (v := (0 : Int32)) B dX2_follow_4 (by decide) ?_
  refine g_istore_n (lv' := [(0, .ref hp), (1, .int (nI t)), (2, .ref ht), (3, .int (0 : Int32))]) B dX2_follow_5 rfl (by decide) [1, 2, 3, 0] rfl ?_
  refine g_iconst (v := (0 : Int32)) B dX2_follow_6 (by decide) ?_
  refine g_istore (lv' := [(0, .ref hp), (1, .int (nI t)), (2, .ref ht), (3, .int (0 : Int32)), (4, .int (0 : Int32))]) B dX2_follow_7 (by decide) [1, 2, 3, 4, 0] rfl ?_
  refine g_loop (σ := Nat × (Nat → Int32)) (fun x9 => x9.1 ≤ 30 ∧ (∀ j, j < x9.1 → ks_go P (ks_nd P t j) = true) ∧ ∀ j, j < x9.1 → x9.2 j = nI (ks_ek P t j)) (fun x9 => 31 - x9.1) (fun x9 => 0) (fun x9 => 0) (fun x9 => [(hp, .inr (2, [.ref p0, .ref p1, .ref p2, .ref p3, .ref p4])), (p0, .inl (cI, 12, .inl (fun i => nI (P.1 i)))), (p1, .inl (cI, 12, .inl (fun i => nI (P.2.1 i)))), (p2, .inl (cI, 12, .inl (fun i => nI (P.2.2.1 i)))), (p3, .inl (cI, 24, .inl (fun i => ks_tI (P.2.2.2.1 i)))), (p4, .inl (cZ, 12, .inl (fun i => bI (P.2.2.2.2 i)))), (ht, .inr (4, [.ref t0, .int (nI x9.1), .int (ks_rI x9.1 (ks_rk P t x9.1)), .long (ks_fk P t x9.1)])), (t0, .inl (cI, 30, .inl x9.2))]) (fun x9 => [(0, .ref hp), (1, .int (nI t)), (2, .ref ht), (3, .int (ks_tI (ks_nd P t x9.1))), (4, .int (nI x9.1))]) (fun x9 hI ih9 => ?_) (0, fp) (by (try dsimp only); exact ⟨by omega, fun j h => absurd h (Nat.not_lt_zero j), fun j h => absurd h (Nat.not_lt_zero j)⟩) rfl rfl (by (try dsimp only) <;> rfl) (by (try dsimp only) <;> rfl)
  obtain ⟨k, fp1⟩ := x9
  try dsimp only at hI ih9 ⊢
  obtain ⟨i1, i2, i3⟩ := hI
  refine g_iload B dX2_follow_9 4 rfl ?_
  refine g_bipush (v := (30 : Int32)) B dX2_follow_11 (by decide) ?_
  refine g_ncmp_ge (tgt := 74) B k 30 rfl rfl (by omega) (by omega) dX2_follow_13 (by decide) (fun c3 => ?_) (fun c3 => ?_)
  · refine g_iload_n B dX2_follow_74 3 rfl ?_
    refine g_callP (g_runSN B hN (PM.met (k_isNode_t l (D := D) (cI := cI) (cL := cL) (cZ := cZ) (cQ := cQ) (ks_nd P t k) )) (gPp.pre (av := [.int (ks_tI (ks_nd P t k))]) (wc := []) hK hN [] rfl (by decide)) gX2_follow_X5_isNode_n39 (List.mem_of_getElem? (i := 12) rfl) (List.mem_of_getElem? (i := 11) rfl) 8 rfl rfl kd_X5_isNode ⟨by decide, by decide⟩ (st := []) rfl (Nat.le_of_ble_eq_true rfl) dX2_follow_75 ⟨by decide, by decide⟩) (fun u hu => ?_)
    refine g_bif_eq (tgt := 100) B dX2_follow_78 (by decide) (fun c5 => ?_) (fun c5 => ?_)
    · obtain ⟨z1, z2, z3⟩ := fw_A i1 i2 (of_decide_eq_false c5)
      refine g_eqw (w2 := [(hp, .inr (2, [.ref p0, .ref p1, .ref p2, .ref p3, .ref p4])), (p0, .inl (cI, 12, .inl (fun i => nI (P.1 i)))), (p1, .inl (cI, 12, .inl (fun i => nI (P.2.1 i)))), (p2, .inl (cI, 12, .inl (fun i => nI (P.2.2.1 i)))), (p3, .inl (cI, 24, .inl (fun i => ks_tI (P.2.2.2.1 i)))), (p4, .inl (cZ, 12, .inl (fun i => bI (P.2.2.2.2 i)))), (ht, .inr (4, [.ref t0, .int (nI (ks_st P t)), .int (nI (ks_rs P t)), .long (ks_fd P t)])), (t0, .inl (cI, 30, .inl fp1))]) (by rw [← z1, ← z3]; first | (rw [z2]; done) | (rw [← z2]; done) | (rw [← z2]; rfl)) ?_
      exact g_vret_w B hr hlocks fp1 (rfl) (by rw [← z1]; exact i3) [0, 1, 2, 3, 4, 5, 6, 7] (by decide) rfl dX2_follow_100
    · have hn5 := of_decide_eq_true c5
      refine g_eqlv (lv2 := [(0, .ref hp), (1, .int (nI t)), (2, .ref ht), (3, .int (nI (ks_nd P t k))), (4, .int (nI k))]) (by rw [ks_tI_lt (by omega)]) ?_
      refine g_aload_n B dX2_follow_81 2 rfl ?_
      refine g_aload_n B dX2_follow_82 0 rfl ?_
      refine g_get (C := RX2) (T := TX2) (N := 5) (ci := 2) B hK hin_X2_follow_RX2 0 rfl rfl 4 (by decide) (List.mem_of_getElem? (i := 1) rfl) rfl (v := .ref p4) rfl dX2_follow_83 ?_
      refine g_iload_n B dX2_follow_86 3 rfl ?_
      refine g_zald B hK 5 2 rfl rfl (ks_nd P t k) rfl (by omega) (by omega) (v := bI (P.2.2.2.2 (ks_nd P t k))) rfl dX2_follow_87 ?_
      refine g_bif_eq (tgt := 95) B dX2_follow_88 (by decide) (fun c6 => ?_) (fun c6 => ?_)
      · refine g_bipush (v := (12 : Int32)) B dX2_follow_95 (by decide) ?_
        refine g_callW (w2 := (fun (_ : Unit) => [(hp, .inr (2, [.ref p0, .ref p1, .ref p2, .ref p3, .ref p4])), (p0, .inl (cI, 12, .inl (fun i => nI (P.1 i)))), (p1, .inl (cI, 12, .inl (fun i => nI (P.2.1 i)))), (p2, .inl (cI, 12, .inl (fun i => nI (P.2.2.1 i)))), (p3, .inl (cI, 24, .inl (fun i => ks_tI (P.2.2.2.1 i)))), (p4, .inl (cZ, 12, .inl (fun i => bI (P.2.2.2.2 i)))), (ht, .inr (4, [.ref t0, .int (nI k), .int (nI (100 + 12)), .long ((ks_fk P t k) ||| lShl 1 (nI (24 + 12)))])), (t0, .inl (cI, 30, .inl fp1))])) (g_runV (q0 := 6) (ci := 4) B hK rfl rfl (k_fail l (D := D) (cI := cI) (cL := cL) (cZ := cZ) (cQ := cQ) ht t0 12 (nI k) (ks_rI k (ks_rk P t k)) (ks_fk P t k) (by first | with_reducible assumption | omega | assumption)) (gPw.pre (av := [.ref ht, .int (12 : Int32)]) (wc := [(ht, .inr (4, [.ref t0, .int (nI k), .int (ks_rI k (ks_rk P t k)), .long (ks_fk P t k)]))]) hK hN [6] rfl (by decide)) gX2_follow_X4_fail rfl rfl kd_X4_fail ⟨by decide, by decide⟩ (st := []) rfl (Nat.le_of_ble_eq_true rfl) dX2_follow_97 ⟨by decide, by decide⟩) hA (fun _ h => h) [6] [0, 1, 2, 3, 4, 5, 7] (wr := [(hp, .inr (2, [.ref p0, .ref p1, .ref p2, .ref p3, .ref p4])), (p0, .inl (cI, 12, .inl (fun i => nI (P.1 i)))), (p1, .inl (cI, 12, .inl (fun i => nI (P.2.1 i)))), (p2, .inl (cI, 12, .inl (fun i => nI (P.2.2.1 i)))), (p3, .inl (cI, 24, .inl (fun i => ks_tI (P.2.2.2.1 i)))), (p4, .inl (cZ, 12, .inl (fun i => bI (P.2.2.2.2 i)))), (t0, .inl (cI, 30, .inl fp1))]) rfl rfl (by decide) (by decide) [0, 1, 2, 3, 4, 5, 7, 6] (by decide) (fun _ => rfl) (fun u hu => ?_)
        refine g_eqw (w2 := [(hp, .inr (2, [.ref p0, .ref p1, .ref p2, .ref p3, .ref p4])), (p0, .inl (cI, 12, .inl (fun i => nI (P.1 i)))), (p1, .inl (cI, 12, .inl (fun i => nI (P.2.1 i)))), (p2, .inl (cI, 12, .inl (fun i => nI (P.2.2.1 i)))), (p3, .inl (cI, 24, .inl (fun i => ks_tI (P.2.2.2.1 i)))), (p4, .inl (cZ, 12, .inl (fun i => bI (P.2.2.2.2 i)))), (ht, .inr (4, [.ref t0, .int (nI k), .int (112 : Int32), .long ((ks_fk P t k) ||| lShl 1 (nI (24 + 12)))])), (t0, .inl (cI, 30, .inl fp1))]) rfl ?_
        obtain ⟨z1, z2, z3⟩ := fw_C (by omega) i2 (by omega) c6
        refine g_eqw (w2 := [(hp, .inr (2, [.ref p0, .ref p1, .ref p2, .ref p3, .ref p4])), (p0, .inl (cI, 12, .inl (fun i => nI (P.1 i)))), (p1, .inl (cI, 12, .inl (fun i => nI (P.2.1 i)))), (p2, .inl (cI, 12, .inl (fun i => nI (P.2.2.1 i)))), (p3, .inl (cI, 24, .inl (fun i => ks_tI (P.2.2.2.1 i)))), (p4, .inl (cZ, 12, .inl (fun i => bI (P.2.2.2.2 i)))), (ht, .inr (4, [.ref t0, .int (nI (ks_st P t)), .int (nI (ks_rs P t)), .long (ks_fd P t)])), (t0, .inl (cI, 30, .inl fp1))]) (by rw [← z1, ← z3]; first | (rw [z2]; done) | (rw [← z2]; done) | (rw [← z2]; rfl)) ?_
        exact g_vret_w B hr hlocks fp1 (rfl) (by rw [← z1]; exact i3) [0, 1, 2, 3, 4, 5, 6, 7] (by decide) rfl dX2_follow_100
      · refine g_iload_n B dX2_follow_91 3 rfl ?_
        refine g_goto (tgt := 97) B dX2_follow_92 (by decide) ?_
        refine g_callW (w2 := (fun (_ : Unit) => [(hp, .inr (2, [.ref p0, .ref p1, .ref p2, .ref p3, .ref p4])), (p0, .inl (cI, 12, .inl (fun i => nI (P.1 i)))), (p1, .inl (cI, 12, .inl (fun i => nI (P.2.1 i)))), (p2, .inl (cI, 12, .inl (fun i => nI (P.2.2.1 i)))), (p3, .inl (cI, 24, .inl (fun i => ks_tI (P.2.2.2.1 i)))), (p4, .inl (cZ, 12, .inl (fun i => bI (P.2.2.2.2 i)))), (ht, .inr (4, [.ref t0, .int (nI k), .int (nI (100 + (ks_nd P t k))), .long ((ks_fk P t k) ||| lShl 1 (nI (24 + (ks_nd P t k))))])), (t0, .inl (cI, 30, .inl fp1))])) (g_runV (q0 := 6) (ci := 4) B hK rfl rfl (k_fail l (D := D) (cI := cI) (cL := cL) (cZ := cZ) (cQ := cQ) ht t0 (ks_nd P t k) (nI k) (ks_rI k (ks_rk P t k)) (ks_fk P t k) (by first | with_reducible assumption | omega | assumption)) (gPw.pre (av := [.ref ht, .int (nI (ks_nd P t k))]) (wc := [(ht, .inr (4, [.ref t0, .int (nI k), .int (ks_rI k (ks_rk P t k)), .long (ks_fk P t k)]))]) hK hN [6] rfl (by decide)) gX2_follow_X4_fail rfl rfl kd_X4_fail ⟨by decide, by decide⟩ (st := []) rfl (Nat.le_of_ble_eq_true rfl) dX2_follow_97 ⟨by decide, by decide⟩) hA (fun _ h => h) [6] [0, 1, 2, 3, 4, 5, 7] (wr := [(hp, .inr (2, [.ref p0, .ref p1, .ref p2, .ref p3, .ref p4])), (p0, .inl (cI, 12, .inl (fun i => nI (P.1 i)))), (p1, .inl (cI, 12, .inl (fun i => nI (P.2.1 i)))), (p2, .inl (cI, 12, .inl (fun i => nI (P.2.2.1 i)))), (p3, .inl (cI, 24, .inl (fun i => ks_tI (P.2.2.2.1 i)))), (p4, .inl (cZ, 12, .inl (fun i => bI (P.2.2.2.2 i)))), (t0, .inl (cI, 30, .inl fp1))]) rfl rfl (by decide) (by decide) [0, 1, 2, 3, 4, 5, 7, 6] (by decide) (fun _ => rfl) (fun u hu => ?_)
        obtain ⟨z1, z2, z3⟩ := fw_B i1 i2 (by omega) c6
        refine g_eqw (w2 := [(hp, .inr (2, [.ref p0, .ref p1, .ref p2, .ref p3, .ref p4])), (p0, .inl (cI, 12, .inl (fun i => nI (P.1 i)))), (p1, .inl (cI, 12, .inl (fun i => nI (P.2.1 i)))), (p2, .inl (cI, 12, .inl (fun i => nI (P.2.2.1 i)))), (p3, .inl (cI, 24, .inl (fun i => ks_tI (P.2.2.2.1 i)))), (p4, .inl (cZ, 12, .inl (fun i => bI (P.2.2.2.2 i)))), (ht, .inr (4, [.ref t0, .int (nI (ks_st P t)), .int (nI (ks_rs P t)), .long (ks_fd P t)])), (t0, .inl (cI, 30, .inl fp1))]) (by rw [← z1, ← z3]; first | (rw [z2]; done) | (rw [← z2]; done) | (rw [← z2]; rfl)) ?_
        exact g_vret_w B hr hlocks fp1 (rfl) (by rw [← z1]; exact i3) [0, 1, 2, 3, 4, 5, 6, 7] (by decide) rfl dX2_follow_100
  · refine g_iload_n B dX2_follow_16 3 rfl ?_
    refine g_callP (g_runSN B hN (PM.met (k_isNode_t l (D := D) (cI := cI) (cL := cL) (cZ := cZ) (cQ := cQ) (ks_nd P t k) )) (gPp.pre (av := [.int (ks_tI (ks_nd P t k))]) (wc := []) hK hN [] rfl (by decide)) gX2_follow_X5_isNode_n39 (List.mem_of_getElem? (i := 12) rfl) (List.mem_of_getElem? (i := 11) rfl) 8 rfl rfl kd_X5_isNode ⟨by decide, by decide⟩ (st := []) rfl (Nat.le_of_ble_eq_true rfl) dX2_follow_17 ⟨by decide, by decide⟩) (fun u hu => ?_)
    refine g_bif_eq (tgt := 74) B dX2_follow_20 (by decide) (fun c10 => ?_) (fun c10 => ?_)
    · refine g_iload_n B dX2_follow_74 3 rfl ?_
      refine g_callP (g_runSN B hN (PM.met (k_isNode_t l (D := D) (cI := cI) (cL := cL) (cZ := cZ) (cQ := cQ) (ks_nd P t k) )) (gPp.pre (av := [.int (ks_tI (ks_nd P t k))]) (wc := []) hK hN [] rfl (by decide)) gX2_follow_X5_isNode_n39 (List.mem_of_getElem? (i := 12) rfl) (List.mem_of_getElem? (i := 11) rfl) 8 rfl rfl kd_X5_isNode ⟨by decide, by decide⟩ (st := []) rfl (Nat.le_of_ble_eq_true rfl) dX2_follow_75 ⟨by decide, by decide⟩) (fun u hu => ?_)
      refine g_bif_eq (tgt := 100) B dX2_follow_78 (by decide) (fun c12 => ?_) (fun c12 => ?_)
      rotate_left; · exfalso; exact absurd (c10.symm.trans c12) (by decide)
      obtain ⟨z1, z2, z3⟩ := fw_A i1 i2 (of_decide_eq_false c10)
      refine g_eqw (w2 := [(hp, .inr (2, [.ref p0, .ref p1, .ref p2, .ref p3, .ref p4])), (p0, .inl (cI, 12, .inl (fun i => nI (P.1 i)))), (p1, .inl (cI, 12, .inl (fun i => nI (P.2.1 i)))), (p2, .inl (cI, 12, .inl (fun i => nI (P.2.2.1 i)))), (p3, .inl (cI, 24, .inl (fun i => ks_tI (P.2.2.2.1 i)))), (p4, .inl (cZ, 12, .inl (fun i => bI (P.2.2.2.2 i)))), (ht, .inr (4, [.ref t0, .int (nI (ks_st P t)), .int (nI (ks_rs P t)), .long (ks_fd P t)])), (t0, .inl (cI, 30, .inl fp1))]) (by rw [← z1, ← z3]; first | (rw [z2]; done) | (rw [← z2]; done) | (rw [← z2]; rfl)) ?_
      exact g_vret_w B hr hlocks fp1 (rfl) (by rw [← z1]; exact i3) [0, 1, 2, 3, 4, 5, 6, 7] (by decide) rfl dX2_follow_100
    · have hn12 := of_decide_eq_true c10
      refine g_eqlv (lv2 := [(0, .ref hp), (1, .int (nI t)), (2, .ref ht), (3, .int (nI (ks_nd P t k))), (4, .int (nI k))]) (by rw [ks_tI_lt (by omega)]) ?_
      refine g_aload_n B dX2_follow_23 0 rfl ?_
      refine g_get (C := RX2) (T := TX2) (N := 5) (ci := 2) B hK hin_X2_follow_RX2 0 rfl rfl 4 (by decide) (List.mem_of_getElem? (i := 1) rfl) rfl (v := .ref p4) rfl dX2_follow_24 ?_
      refine g_iload_n B dX2_follow_27 3 rfl ?_
      refine g_zald B hK 5 2 rfl rfl (ks_nd P t k) rfl (by omega) (by omega) (v := bI (P.2.2.2.2 (ks_nd P t k))) rfl dX2_follow_28 ?_
      refine g_bif_ne (tgt := 74) B dX2_follow_29 (by decide) (fun c13 => ?_) (fun c13 => ?_)
      · refine g_iload_n B dX2_follow_74 3 rfl ?_
        refine g_callP (g_runSN B hN (PM.met (k_isNode_n l (D := D) (cI := cI) (cL := cL) (cZ := cZ) (cQ := cQ) (ks_nd P t k) (by first | with_reducible assumption | omega | assumption))) (gPp.pre (av := [.int (nI (ks_nd P t k))]) (wc := []) hK hN [] rfl (by decide)) gX2_follow_X5_isNode_n39 (List.mem_of_getElem? (i := 12) rfl) (List.mem_of_getElem? (i := 11) rfl) 8 rfl rfl kd_X5_isNode ⟨by decide, by decide⟩ (st := []) rfl (Nat.le_of_ble_eq_true rfl) dX2_follow_75 ⟨by decide, by decide⟩) (fun u hu => ?_)
        refine g_if_eq (tgt := 100) B dX2_follow_78 (by decide) (fun c15 => absurd c15 (by decide)) (fun _ => ?_)
        refine g_aload_n B dX2_follow_81 2 rfl ?_
        refine g_aload_n B dX2_follow_82 0 rfl ?_
        refine g_get (C := RX2) (T := TX2) (N := 5) (ci := 2) B hK hin_X2_follow_RX2 0 rfl rfl 4 (by decide) (List.mem_of_getElem? (i := 1) rfl) rfl (v := .ref p4) rfl dX2_follow_83 ?_
        refine g_iload_n B dX2_follow_86 3 rfl ?_
        refine g_zald B hK 5 2 rfl rfl (ks_nd P t k) rfl (by omega) (by omega) (v := bI (P.2.2.2.2 (ks_nd P t k))) rfl dX2_follow_87 ?_
        refine g_bif_eq (tgt := 95) B dX2_follow_88 (by decide) (fun c16 => ?_) (fun c16 => ?_)
        · exfalso; exact absurd (c13.symm.trans c16) (by decide)
        refine g_iload_n B dX2_follow_91 3 rfl ?_
        refine g_goto (tgt := 97) B dX2_follow_92 (by decide) ?_
        refine g_callW (w2 := (fun (_ : Unit) => [(hp, .inr (2, [.ref p0, .ref p1, .ref p2, .ref p3, .ref p4])), (p0, .inl (cI, 12, .inl (fun i => nI (P.1 i)))), (p1, .inl (cI, 12, .inl (fun i => nI (P.2.1 i)))), (p2, .inl (cI, 12, .inl (fun i => nI (P.2.2.1 i)))), (p3, .inl (cI, 24, .inl (fun i => ks_tI (P.2.2.2.1 i)))), (p4, .inl (cZ, 12, .inl (fun i => bI (P.2.2.2.2 i)))), (ht, .inr (4, [.ref t0, .int (nI k), .int (nI (100 + (ks_nd P t k))), .long ((ks_fk P t k) ||| lShl 1 (nI (24 + (ks_nd P t k))))])), (t0, .inl (cI, 30, .inl fp1))])) (g_runV (q0 := 6) (ci := 4) B hK rfl rfl (k_fail l (D := D) (cI := cI) (cL := cL) (cZ := cZ) (cQ := cQ) ht t0 (ks_nd P t k) (nI k) (ks_rI k (ks_rk P t k)) (ks_fk P t k) (by first | with_reducible assumption | omega | assumption)) (gPw.pre (av := [.ref ht, .int (nI (ks_nd P t k))]) (wc := [(ht, .inr (4, [.ref t0, .int (nI k), .int (ks_rI k (ks_rk P t k)), .long (ks_fk P t k)]))]) hK hN [6] rfl (by decide)) gX2_follow_X4_fail rfl rfl kd_X4_fail ⟨by decide, by decide⟩ (st := []) rfl (Nat.le_of_ble_eq_true rfl) dX2_follow_97 ⟨by decide, by decide⟩) hA (fun _ h => h) [6] [0, 1, 2, 3, 4, 5, 7] (wr := [(hp, .inr (2, [.ref p0, .ref p1, .ref p2, .ref p3, .ref p4])), (p0, .inl (cI, 12, .inl (fun i => nI (P.1 i)))), (p1, .inl (cI, 12, .inl (fun i => nI (P.2.1 i)))), (p2, .inl (cI, 12, .inl (fun i => nI (P.2.2.1 i)))), (p3, .inl (cI, 24, .inl (fun i => ks_tI (P.2.2.2.1 i)))), (p4, .inl (cZ, 12, .inl (fun i => bI (P.2.2.2.2 i)))), (t0, .inl (cI, 30, .inl fp1))]) rfl rfl (by decide) (by decide) [0, 1, 2, 3, 4, 5, 7, 6] (by decide) (fun _ => rfl) (fun u hu => ?_)
        obtain ⟨z1, z2, z3⟩ := fw_B i1 i2 (by omega) c13
        refine g_eqw (w2 := [(hp, .inr (2, [.ref p0, .ref p1, .ref p2, .ref p3, .ref p4])), (p0, .inl (cI, 12, .inl (fun i => nI (P.1 i)))), (p1, .inl (cI, 12, .inl (fun i => nI (P.2.1 i)))), (p2, .inl (cI, 12, .inl (fun i => nI (P.2.2.1 i)))), (p3, .inl (cI, 24, .inl (fun i => ks_tI (P.2.2.2.1 i)))), (p4, .inl (cZ, 12, .inl (fun i => bI (P.2.2.2.2 i)))), (ht, .inr (4, [.ref t0, .int (nI (ks_st P t)), .int (nI (ks_rs P t)), .long (ks_fd P t)])), (t0, .inl (cI, 30, .inl fp1))]) (by rw [← z1, ← z3]; first | (rw [z2]; done) | (rw [← z2]; done) | (rw [← z2]; rfl)) ?_
        exact g_vret_w B hr hlocks fp1 (rfl) (by rw [← z1]; exact i3) [0, 1, 2, 3, 4, 5, 6, 7] (by decide) rfl dX2_follow_100
      · refine g_aload_n B dX2_follow_32 0 rfl ?_
        refine g_iload_n B dX2_follow_33 3 rfl ?_
        refine g_iload_n B dX2_follow_34 1 rfl ?_
        refine g_callP (g_runV (q0 := 0) (ci := 2) B hK rfl rfl (PM.met (k_isSo l (D := D) (cI := cI) (cL := cL) (cZ := cZ) (cQ := cQ) hp p0 p1 p2 p3 p4 P (ks_nd P t k) t (by first | with_reducible assumption | omega | assumption) (by first | with_reducible assumption | omega | assumption) (by first | with_reducible assumption | omega | assumption))) (gPp.pre (av := [.ref hp, .int (nI (ks_nd P t k)), .int (nI t)]) (wc := [(hp, .inr (2, [.ref p0, .ref p1, .ref p2, .ref p3, .ref p4])), (p0, .inl (cI, 12, .inl (fun i => nI (P.1 i)))), (p1, .inl (cI, 12, .inl (fun i => nI (P.2.1 i)))), (p2, .inl (cI, 12, .inl (fun i => nI (P.2.2.1 i))))]) hK hN [0, 1, 2, 3] rfl (by decide)) gX2_follow_X2_isSo rfl rfl kd_X2_isSo ⟨by decide, by decide⟩ (st := []) rfl (Nat.le_of_ble_eq_true rfl) dX2_follow_35 ⟨by decide, by decide⟩) (fun u hu => ?_)
        refine g_bif_eq (tgt := 47) B dX2_follow_38 (by decide) (fun c19 => ?_) (fun c19 => ?_)
        · refine g_iconst (v := (2 : Int32)) B dX2_follow_47 (by decide) ?_
          refine g_iload_n B dX2_follow_48 3 rfl ?_
          refine g_imul (v := nI (2 * (ks_nd P t k))) B dX2_follow_49 (pk_mul 2 (ks_nd P t k)) ?_
          refine g_iconst (v := (1 : Int32)) B dX2_follow_50 (by decide) ?_
          refine g_iadd (v := nI ((2 * (ks_nd P t k)) + 1)) B dX2_follow_51 (nI_add (2 * (ks_nd P t k)) 1) ?_
          refine g_eqi (y := nI (ks_ek P t k)) (fw_ek0 c19) ?_
          have hg : ks_go P (ks_nd P t k) = true := ks_go_of (by omega) c13
          have hek : ks_ek P t k < 24 := (ks_eg_lt (by omega)).1
          refine g_istore (lv' := [(0, .ref hp), (1, .int (nI t)), (2, .ref ht), (3, .int (nI (ks_nd P t k))), (4, .int (nI k)), (5, .int (nI (ks_ek P t k)))]) B dX2_follow_52 (by decide) [1, 2, 3, 4, 5, 0] rfl ?_
          refine g_aload_n B dX2_follow_54 2 rfl ?_
          refine g_iload B dX2_follow_55 5 rfl ?_
          refine g_callW (w2 := (fun (_ : Unit) => [(hp, .inr (2, [.ref p0, .ref p1, .ref p2, .ref p3, .ref p4])), (p0, .inl (cI, 12, .inl (fun i => nI (P.1 i)))), (p1, .inl (cI, 12, .inl (fun i => nI (P.2.1 i)))), (p2, .inl (cI, 12, .inl (fun i => nI (P.2.2.1 i)))), (p3, .inl (cI, 24, .inl (fun i => ks_tI (P.2.2.2.1 i)))), (p4, .inl (cZ, 12, .inl (fun i => bI (P.2.2.2.2 i)))), (ht, .inr (4, [.ref t0, .int (nI (k + 1)), .int (nI (ks_ek P t k)), .long ((ks_fk P t k) ||| lShl 1 (nI (ks_ek P t k)))])), (t0, .inl (cI, 30, .inl (upd fp1 k (nI (ks_ek P t k)))))])) (g_runV (q0 := 6) (ci := 4) B hK rfl rfl (k_goOver l (D := D) (cI := cI) (cL := cL) (cZ := cZ) (cQ := cQ) ht t0 k (ks_ek P t k) fp1 (ks_rI k (ks_rk P t k)) (ks_fk P t k) (by first | with_reducible assumption | omega | assumption) (by first | with_reducible assumption | omega | assumption)) (gPw.pre (av := [.ref ht, .int (nI (ks_ek P t k))]) (wc := [(ht, .inr (4, [.ref t0, .int (nI k), .int (ks_rI k (ks_rk P t k)), .long (ks_fk P t k)])), (t0, .inl (cI, 30, .inl fp1))]) hK hN [6, 7] rfl (by decide)) gX2_follow_X4_goOver rfl rfl kd_X4_goOver ⟨by decide, by decide⟩ (st := []) rfl (Nat.le_of_ble_eq_true rfl) dX2_follow_57 ⟨by decide, by decide⟩) hA (fun _ h => h) [6, 7] [0, 1, 2, 3, 4, 5] (wr := [(hp, .inr (2, [.ref p0, .ref p1, .ref p2, .ref p3, .ref p4])), (p0, .inl (cI, 12, .inl (fun i => nI (P.1 i)))), (p1, .inl (cI, 12, .inl (fun i => nI (P.2.1 i)))), (p2, .inl (cI, 12, .inl (fun i => nI (P.2.2.1 i)))), (p3, .inl (cI, 24, .inl (fun i => ks_tI (P.2.2.2.1 i)))), (p4, .inl (cZ, 12, .inl (fun i => bI (P.2.2.2.2 i))))]) rfl rfl (by decide) (by decide) [0, 1, 2, 3, 4, 5, 6, 7] (by decide) (fun _ => rfl) (fun u hu => ?_)
          refine g_aload_n B dX2_follow_60 0 rfl ?_
          refine g_get (C := RX2) (T := TX2) (N := 5) (ci := 2) B hK hin_X2_follow_RX2 0 rfl rfl 3 (by decide) (List.mem_of_getElem? (i := 2) rfl) rfl (v := .ref p3) rfl dX2_follow_61 ?_
          refine g_iload B dX2_follow_64 5 rfl ?_
          refine g_iald B hK 4 0 rfl rfl (ks_ek P t k) rfl (by omega) (by omega) (v := ks_tI (P.2.2.2.1 (ks_ek P t k))) rfl dX2_follow_66 ?_
          refine g_istore_n (lv' := [(0, .ref hp), (1, .int (nI t)), (2, .ref ht), (3, .int (ks_tI (P.2.2.2.1 (ks_ek P t k)))), (4, .int (nI k)), (5, .int (nI (ks_ek P t k)))]) B dX2_follow_67 rfl (by decide) [1, 2, 3, 0, 4, 5] rfl ?_
          refine g_iinc (lv' := [(0, .ref hp), (1, .int (nI t)), (2, .ref ht), (3, .int (ks_tI (P.2.2.2.1 (ks_ek P t k)))), (4, .int (nI (k + 1))), (5, .int (nI (ks_ek P t k)))]) B dX2_follow_68 4 rfl (nI_1 k) (by decide) [1, 2, 3, 4, 0, 5] rfl ?_
          refine g_eqlv (lv2 := [(0, .ref hp), (1, .int (nI t)), (2, .ref ht), (3, .int (ks_tI (ks_nd P t (k + 1)))), (4, .int (nI (k + 1))), (5, .int (nI (ks_ek P t k)))]) (by rw [(ks_step hg).1]) ?_
          refine g_eqw (w2 := [(hp, .inr (2, [.ref p0, .ref p1, .ref p2, .ref p3, .ref p4])), (p0, .inl (cI, 12, .inl (fun i => nI (P.1 i)))), (p1, .inl (cI, 12, .inl (fun i => nI (P.2.1 i)))), (p2, .inl (cI, 12, .inl (fun i => nI (P.2.2.1 i)))), (p3, .inl (cI, 24, .inl (fun i => ks_tI (P.2.2.2.1 i)))), (p4, .inl (cZ, 12, .inl (fun i => bI (P.2.2.2.2 i)))), (ht, .inr (4, [.ref t0, .int (nI (k + 1)), .int (ks_rI (k + 1) (ks_rk P t (k + 1))), .long (ks_fk P t (k + 1))])), (t0, .inl (cI, 30, .inl (upd fp1 k (nI (ks_ek P t k)))))]) (by rw [(ks_step hg).2.1, fw_rI hg]) ?_
          refine g_goto (tgt := 9) B dX2_follow_71 (by decide) ?_
          have ihx21 := ih9 (k + 1, (upd fp1 k (nI (ks_ek P t k))))
          try dsimp only at ihx21
          exact g_pick [0, 1, 2, 3, 4] rfl (ihx21 (⟨by omega, lt_s i2 hg, lt_s (p := fun j => upd fp1 k (nI (ks_ek P t k)) j = nI (ks_ek P t j)) (fun a ha => by rw [pk_un (by omega)]; exact i3 a ha) pk_us⟩) (by (try dsimp only); omega))
        · refine g_iconst (v := (2 : Int32)) B dX2_follow_41 (by decide) ?_
          refine g_iload_n B dX2_follow_42 3 rfl ?_
          refine g_imul (v := nI (2 * (ks_nd P t k))) B dX2_follow_43 (pk_mul 2 (ks_nd P t k)) ?_
          refine g_goto (tgt := 52) B dX2_follow_44 (by decide) ?_
          refine g_eqi (y := nI (ks_ek P t k)) (fw_ek1 c19) ?_
          have hg : ks_go P (ks_nd P t k) = true := ks_go_of (by omega) c13
          have hek : ks_ek P t k < 24 := (ks_eg_lt (by omega)).1
          refine g_istore (lv' := [(0, .ref hp), (1, .int (nI t)), (2, .ref ht), (3, .int (nI (ks_nd P t k))), (4, .int (nI k)), (5, .int (nI (ks_ek P t k)))]) B dX2_follow_52 (by decide) [1, 2, 3, 4, 5, 0] rfl ?_
          refine g_aload_n B dX2_follow_54 2 rfl ?_
          refine g_iload B dX2_follow_55 5 rfl ?_
          refine g_callW (w2 := (fun (_ : Unit) => [(hp, .inr (2, [.ref p0, .ref p1, .ref p2, .ref p3, .ref p4])), (p0, .inl (cI, 12, .inl (fun i => nI (P.1 i)))), (p1, .inl (cI, 12, .inl (fun i => nI (P.2.1 i)))), (p2, .inl (cI, 12, .inl (fun i => nI (P.2.2.1 i)))), (p3, .inl (cI, 24, .inl (fun i => ks_tI (P.2.2.2.1 i)))), (p4, .inl (cZ, 12, .inl (fun i => bI (P.2.2.2.2 i)))), (ht, .inr (4, [.ref t0, .int (nI (k + 1)), .int (nI (ks_ek P t k)), .long ((ks_fk P t k) ||| lShl 1 (nI (ks_ek P t k)))])), (t0, .inl (cI, 30, .inl (upd fp1 k (nI (ks_ek P t k)))))])) (g_runV (q0 := 6) (ci := 4) B hK rfl rfl (k_goOver l (D := D) (cI := cI) (cL := cL) (cZ := cZ) (cQ := cQ) ht t0 k (ks_ek P t k) fp1 (ks_rI k (ks_rk P t k)) (ks_fk P t k) (by first | with_reducible assumption | omega | assumption) (by first | with_reducible assumption | omega | assumption)) (gPw.pre (av := [.ref ht, .int (nI (ks_ek P t k))]) (wc := [(ht, .inr (4, [.ref t0, .int (nI k), .int (ks_rI k (ks_rk P t k)), .long (ks_fk P t k)])), (t0, .inl (cI, 30, .inl fp1))]) hK hN [6, 7] rfl (by decide)) gX2_follow_X4_goOver rfl rfl kd_X4_goOver ⟨by decide, by decide⟩ (st := []) rfl (Nat.le_of_ble_eq_true rfl) dX2_follow_57 ⟨by decide, by decide⟩) hA (fun _ h => h) [6, 7] [0, 1, 2, 3, 4, 5] (wr := [(hp, .inr (2, [.ref p0, .ref p1, .ref p2, .ref p3, .ref p4])), (p0, .inl (cI, 12, .inl (fun i => nI (P.1 i)))), (p1, .inl (cI, 12, .inl (fun i => nI (P.2.1 i)))), (p2, .inl (cI, 12, .inl (fun i => nI (P.2.2.1 i)))), (p3, .inl (cI, 24, .inl (fun i => ks_tI (P.2.2.2.1 i)))), (p4, .inl (cZ, 12, .inl (fun i => bI (P.2.2.2.2 i))))]) rfl rfl (by decide) (by decide) [0, 1, 2, 3, 4, 5, 6, 7] (by decide) (fun _ => rfl) (fun u hu => ?_)
          refine g_aload_n B dX2_follow_60 0 rfl ?_
          refine g_get (C := RX2) (T := TX2) (N := 5) (ci := 2) B hK hin_X2_follow_RX2 0 rfl rfl 3 (by decide) (List.mem_of_getElem? (i := 2) rfl) rfl (v := .ref p3) rfl dX2_follow_61 ?_
          refine g_iload B dX2_follow_64 5 rfl ?_
          refine g_iald B hK 4 0 rfl rfl (ks_ek P t k) rfl (by omega) (by omega) (v := ks_tI (P.2.2.2.1 (ks_ek P t k))) rfl dX2_follow_66 ?_
          refine g_istore_n (lv' := [(0, .ref hp), (1, .int (nI t)), (2, .ref ht), (3, .int (ks_tI (P.2.2.2.1 (ks_ek P t k)))), (4, .int (nI k)), (5, .int (nI (ks_ek P t k)))]) B dX2_follow_67 rfl (by decide) [1, 2, 3, 0, 4, 5] rfl ?_
          refine g_iinc (lv' := [(0, .ref hp), (1, .int (nI t)), (2, .ref ht), (3, .int (ks_tI (P.2.2.2.1 (ks_ek P t k)))), (4, .int (nI (k + 1))), (5, .int (nI (ks_ek P t k)))]) B dX2_follow_68 4 rfl (nI_1 k) (by decide) [1, 2, 3, 4, 0, 5] rfl ?_
          refine g_eqlv (lv2 := [(0, .ref hp), (1, .int (nI t)), (2, .ref ht), (3, .int (ks_tI (ks_nd P t (k + 1)))), (4, .int (nI (k + 1))), (5, .int (nI (ks_ek P t k)))]) (by rw [(ks_step hg).1]) ?_
          refine g_eqw (w2 := [(hp, .inr (2, [.ref p0, .ref p1, .ref p2, .ref p3, .ref p4])), (p0, .inl (cI, 12, .inl (fun i => nI (P.1 i)))), (p1, .inl (cI, 12, .inl (fun i => nI (P.2.1 i)))), (p2, .inl (cI, 12, .inl (fun i => nI (P.2.2.1 i)))), (p3, .inl (cI, 24, .inl (fun i => ks_tI (P.2.2.2.1 i)))), (p4, .inl (cZ, 12, .inl (fun i => bI (P.2.2.2.2 i)))), (ht, .inr (4, [.ref t0, .int (nI (k + 1)), .int (ks_rI (k + 1) (ks_rk P t (k + 1))), .long (ks_fk P t (k + 1))])), (t0, .inl (cI, 30, .inl (upd fp1 k (nI (ks_ek P t k)))))]) (by rw [(ks_step hg).2.1, fw_rI hg]) ?_
          refine g_goto (tgt := 9) B dX2_follow_71 (by decide) ?_
          have ihx23 := ih9 (k + 1, (upd fp1 k (nI (ks_ek P t k))))
          try dsimp only at ihx23
          exact g_pick [0, 1, 2, 3, 4] rfl (ihx23 (⟨by omega, lt_s i2 hg, lt_s (p := fun j => upd fp1 k (nI (ks_ek P t k)) j = nI (ks_ek P t j)) (fun a ha => by rw [pk_un (by omega)]; exact i3 a ha) pk_us⟩) (by (try dsimp only); omega))

set_option maxHeartbeats 4000000 in
set_option maxRecDepth 100000 in
theorem k_resultOf (l : Launch) {D : va_G} {cI cL cZ cQ : ClassId} (hb : Nat) (hg : Nat) (ha : Nat) (hq : Nat) (hp : Nat) (p0 : Nat) (p1 : Nat) (p2 : Nat) (p3 : Nat) (p4 : Nat) (P : Pg) (ht : Nat) (t0 : Nat) (fp : Nat → Int32) (ts : Int32) (tr : Int32) (tf : Int64) (t : Nat) (ht1 : t < 10000) (hW : ks_WP P) : WM l yX5_resultOf wsX5_resultOf ({ frames := 3, cells := 0, slots := 0, locals := 69 } : Room) D (gTys cI cL cZ cQ) [.ref hb, .int (nI t)] [(hb, .inr (5, [.ref hp, .ref ht, .ref hg, .ref ha, .ref hq])), (hp, .inr (2, [.ref p0, .ref p1, .ref p2, .ref p3, .ref p4])), (p0, .inl (cI, 12, .inl (fun i => nI (P.1 i)))), (p1, .inl (cI, 12, .inl (fun i => nI (P.2.1 i)))), (p2, .inl (cI, 12, .inl (fun i => nI (P.2.2.1 i)))), (p3, .inl (cI, 24, .inl (fun i => ks_tI (P.2.2.2.1 i)))), (p4, .inl (cZ, 12, .inl (fun i => bI (P.2.2.2.2 i)))), (ht, .inr (4, [.ref t0, .int ts, .int tr, .long tf])), (t0, .inl (cI, 30, .inl fp))] (fun (fp2 : Nat → Int32) => True) (fun (fp2 : Nat → Int32) => some (.int (nI (ks_rs P t)))) (fun (fp2 : Nat → Int32) => [(hb, .inr (5, [.ref hp, .ref ht, .ref hg, .ref ha, .ref hq])), (hp, .inr (2, [.ref p0, .ref p1, .ref p2, .ref p3, .ref p4])), (p0, .inl (cI, 12, .inl (fun i => nI (P.1 i)))), (p1, .inl (cI, 12, .inl (fun i => nI (P.2.1 i)))), (p2, .inl (cI, 12, .inl (fun i => nI (P.2.2.1 i)))), (p3, .inl (cI, 24, .inl (fun i => ks_tI (P.2.2.2.1 i)))), (p4, .inl (cZ, 12, .inl (fun i => bI (P.2.2.2.2 i)))), (ht, .inr (4, [.ref t0, .int (nI (ks_st P t)), .int (nI (ks_rs P t)), .long (ks_fd P t)])), (t0, .inl (cI, 30, .inl fp2))]) := by
  refine WM.ofG cX5_resultOf 2 (some .int) (by decide +kernel) rfl (Nat.le_of_ble_eq_true rfl) ?_
  intro p e s m below meth c A hA B hr hlocks hname hK hN
  refine g_aload_n B dX5_resultOf_0 0 rfl ?_
  refine g_get (C := RX5) (T := TX5) (N := 5) (ci := 5) B hK hin_X5_resultOf_RX5 0 rfl rfl 0 (by decide) (List.mem_of_getElem? (i := 1) rfl) rfl (v := .ref hp) rfl dX5_resultOf_1 ?_
  refine g_iload_n B dX5_resultOf_4 1 rfl ?_
  refine g_aload_n B dX5_resultOf_5 0 rfl ?_
  refine g_get (C := RX5) (T := TX5) (N := 5) (ci := 5) B hK hin_X5_resultOf_RX5 0 rfl rfl 1 (by decide) (List.mem_of_getElem? (i := 2) rfl) rfl (v := .ref ht) rfl dX5_resultOf_6 ?_
  refine g_callW (w2 := (fun (fp2_1 : Nat → Int32) => [(hb, .inr (5, [.ref hp, .ref ht, .ref hg, .ref ha, .ref hq])), (hp, .inr (2, [.ref p0, .ref p1, .ref p2, .ref p3, .ref p4])), (p0, .inl (cI, 12, .inl (fun i => nI (P.1 i)))), (p1, .inl (cI, 12, .inl (fun i => nI (P.2.1 i)))), (p2, .inl (cI, 12, .inl (fun i => nI (P.2.2.1 i)))), (p3, .inl (cI, 24, .inl (fun i => ks_tI (P.2.2.2.1 i)))), (p4, .inl (cZ, 12, .inl (fun i => bI (P.2.2.2.2 i)))), (ht, .inr (4, [.ref t0, .int (nI (ks_st P t)), .int (nI (ks_rs P t)), .long (ks_fd P t)])), (t0, .inl (cI, 30, .inl fp2_1))])) (g_runV (q0 := 1) (ci := 2) B hK rfl rfl (k_follow l (D := D) (cI := cI) (cL := cL) (cZ := cZ) (cQ := cQ) hp p0 p1 p2 p3 p4 P ht t0 fp ts tr tf t (by first | with_reducible assumption | omega | assumption) (by first | with_reducible assumption | omega | assumption)) (gPw.pre (av := [.ref hp, .int (nI t), .ref ht]) (wc := [(hp, .inr (2, [.ref p0, .ref p1, .ref p2, .ref p3, .ref p4])), (p0, .inl (cI, 12, .inl (fun i => nI (P.1 i)))), (p1, .inl (cI, 12, .inl (fun i => nI (P.2.1 i)))), (p2, .inl (cI, 12, .inl (fun i => nI (P.2.2.1 i)))), (p3, .inl (cI, 24, .inl (fun i => ks_tI (P.2.2.2.1 i)))), (p4, .inl (cZ, 12, .inl (fun i => bI (P.2.2.2.2 i)))), (ht, .inr (4, [.ref t0, .int ts, .int tr, .long tf])), (t0, .inl (cI, 30, .inl fp))]) hK hN [1, 2, 3, 4, 5, 6, 7, 8] rfl (by decide)) gX5_resultOf_X2_follow rfl rfl kd_X2_follow ⟨by decide, by decide⟩ (st := []) rfl (Nat.le_of_ble_eq_true rfl) dX5_resultOf_9 ⟨by decide, by decide⟩) hA (fun _ h => h) [1, 2, 3, 4, 5, 6, 7, 8] [0] (wr := [(hb, .inr (5, [.ref hp, .ref ht, .ref hg, .ref ha, .ref hq]))]) rfl rfl (by decide) (by decide) [0, 1, 2, 3, 4, 5, 6, 7, 8] (by decide) (fun _ => rfl) (fun u hu => ?_)
  obtain ⟨fp2_1, e9⟩ : ∃ z, z = u := ⟨_, rfl⟩; subst e9
  try dsimp only at hu ⊢
  have hu1 := hu
  refine g_aload_n B dX5_resultOf_12 0 rfl ?_
  refine g_get (C := RX5) (T := TX5) (N := 5) (ci := 5) B hK hin_X5_resultOf_RX5 0 rfl rfl 1 (by decide) (List.mem_of_getElem? (i := 2) rfl) rfl (v := .ref ht) rfl dX5_resultOf_13 ?_
  refine g_getN (C := RX4) (T := TX4) (N := 4) (ci := 4) B hK hin_X5_resultOf_RX4 7 rfl rfl 2 (by decide) hN 12 rfl rfl (v := .int (nI (ks_rs P t))) rfl dX5_resultOf_16 ?_
  exact g_iret_w B hr rfl hlocks fp2_1 (rfl) (trivial) [0, 1, 2, 3, 4, 5, 6, 7, 8] (by decide) rfl dX5_resultOf_19

set_option maxHeartbeats 4000000 in
set_option maxRecDepth 100000 in
theorem k_reachableNodes (l : Launch) {D : va_G} {cI cL cZ cQ : ClassId} (hp : Nat) (p0 : Nat) (p1 : Nat) (p2 : Nat) (p3 : Nat) (p4 : Nat) (P : Pg)  : PM l yX2_reachableNodes wsX2_reachableNodes ({ frames := 1, cells := 0, slots := 0, locals := 22 } : Room) D (gTys cI cL cZ cQ) [.ref hp] [(hp, .inr (2, [.ref p0, .ref p1, .ref p2, .ref p3, .ref p4])), (p3, .inl (cI, 24, .inl (fun i => ks_tI (P.2.2.2.1 i))))] (fun (_ : Unit) => True) (fun (_ : Unit) => some (.int (nI (ks_bc (ks_rR P 12))))) := by
  refine PM.ofG cX2_reachableNodes 5 (some .int) (by decide +kernel) rfl (Nat.le_of_ble_eq_true rfl) ?_
  intro p e s m below meth c B hr hlocks hname hK hN
  refine g_lconst (v := (1 : Int64)) B dX2_reachableNodes_0 rfl ?_
  refine g_lstore_n (lv' := [(0, .ref hp), (1, .long (1 : Int64))]) B dX2_reachableNodes_1 rfl (by decide) [1, 0] rfl ?_
  refine g_iconst (v := (0 : Int32)) B dX2_reachableNodes_2 (by decide) ?_
  refine g_istore_n (lv' := [(0, .ref hp), (1, .long (1 : Int64)), (3, .int (0 : Int32))]) B dX2_reachableNodes_3 rfl (by decide) [1, 2, 0] rfl ?_
  refine g_loop (σ := Nat) (fun x9 => x9 ≤ 12) (fun x9 => 13 - x9) (fun x9 => 0) (fun x9 => 0) (fun x9 => [(hp, .inr (2, [.ref p0, .ref p1, .ref p2, .ref p3, .ref p4])), (p3, .inl (cI, 24, .inl (fun i => ks_tI (P.2.2.2.1 i))))]) (fun x9 => [(0, .ref hp), (1, .long (ks_rR P x9)), (3, .int (nI x9))]) (fun x9 hI ih4 => ?_) 0 (by (try dsimp only); omega) rfl rfl rfl rfl
  obtain ⟨r, e9⟩ : ∃ z, z = x9 := ⟨_, rfl⟩; subst e9
  try dsimp only at hI ih4 ⊢
  refine g_iload_n B dX2_reachableNodes_4 2 rfl ?_
  refine g_bipush (v := (12 : Int32)) B dX2_reachableNodes_5 (by decide) ?_
  refine g_ncmp_ge (tgt := 69) B r 12 rfl rfl (by omega) (by omega) dX2_reachableNodes_7 (by decide) (fun c2 => ?_) (fun c2 => ?_)
  · refine g_lload_n B dX2_reachableNodes_69 1 rfl ?_
    obtain rfl : r = 12 := by omega
    refine g_callP (g_runS B (PM.met (k_bitCount l (D := D) (cI := cI) (cL := cL) (cZ := cZ) (cQ := cQ) (ks_rR P 12) )) (gPp.pre (av := [.long (ks_rR P 12)]) (wc := []) hK hN [] rfl (by decide)) gX2_reachableNodes_J13_bitCount_95d88 rfl kd_J13_bitCount_95d88 ⟨by decide, by decide⟩ (st := []) rfl (Nat.le_of_ble_eq_true rfl) dX2_reachableNodes_70 ⟨by decide, by decide⟩) (fun u hu => ?_)
    exact g_iret_p B hr rfl hlocks () (rfl) (trivial) dX2_reachableNodes_73
  · refine g_iconst (v := (0 : Int32)) B dX2_reachableNodes_10 (by decide) ?_
    refine g_istore (lv' := [(0, .ref hp), (1, .long (ks_rR P r)), (3, .int (nI r)), (4, .int (0 : Int32))]) B dX2_reachableNodes_11 (by decide) [1, 2, 3, 0] rfl ?_
    refine g_loop (σ := Nat) (fun x9 => x9 ≤ 24) (fun x9 => 25 - x9) (fun x9 => 0) (fun x9 => 0) (fun x9 => [(hp, .inr (2, [.ref p0, .ref p1, .ref p2, .ref p3, .ref p4])), (p3, .inl (cI, 24, .inl (fun i => ks_tI (P.2.2.2.1 i))))]) (fun x9 => [(0, .ref hp), (1, .long (ks_rE P (ks_rR P r) x9)), (3, .int (nI r)), (4, .int (nI x9))]) (fun x9 hI ih13 => ?_) 0 (by (try dsimp only); omega) rfl rfl rfl rfl
    obtain ⟨e, e9⟩ : ∃ z, z = x9 := ⟨_, rfl⟩; subst e9
    try dsimp only at hI ih13 ⊢
    refine g_iload B dX2_reachableNodes_13 3 rfl ?_
    refine g_bipush (v := (24 : Int32)) B dX2_reachableNodes_15 (by decide) ?_
    refine g_ncmp_ge (tgt := 63) B e 24 rfl rfl (by omega) (by omega) dX2_reachableNodes_17 (by decide) (fun c5 => ?_) (fun c5 => ?_)
    · obtain rfl : e = 24 := by omega
      refine g_eqlv (lv2 := [(0, .ref hp), (1, .long (ks_rR P (r + 1))), (3, .int (nI r)), (4, .int (nI 24))]) rfl ?_
      refine g_iinc (lv' := [(0, .ref hp), (1, .long (ks_rR P (r + 1))), (3, .int (nI (r + 1))), (4, .int (nI 24))]) B dX2_reachableNodes_63 2 rfl (nI_1 r) (by decide) [1, 2, 0, 3] rfl ?_
      refine g_goto (tgt := 4) B dX2_reachableNodes_66 (by decide) ?_
      exact g_pick [0, 1, 2] rfl (ih4 (r + 1) (by (try dsimp only); omega) (by (try dsimp only); omega))
    · refine g_lload_n B dX2_reachableNodes_20 1 rfl ?_
      refine g_iload B dX2_reachableNodes_21 3 rfl ?_
      refine g_iconst (v := (2 : Int32)) B dX2_reachableNodes_23 (by decide) ?_
      refine g_idiv (v := nI (e / 2)) B dX2_reachableNodes_24 (by decide) (pk_div (a := e) (d := 2) (by omega) (by decide) (by decide)) ?_
      refine g_callP (g_runSN B hN (PM.met (k_contains l (D := D) (cI := cI) (cL := cL) (cZ := cZ) (cQ := cQ) (ks_rE P (ks_rR P r) e) (e / 2) (by first | with_reducible assumption | omega | assumption))) (gPp.pre (av := [.long (ks_rE P (ks_rR P r) e), .int (nI (e / 2))]) (wc := []) hK hN [] rfl (by decide)) gX2_reachableNodes_X5_contains_n58 (List.mem_of_getElem? (i := 3) rfl) (List.mem_of_getElem? (i := 2) rfl) 10 rfl rfl kd_X5_contains ⟨by decide, by decide⟩ (st := []) rfl (Nat.le_of_ble_eq_true rfl) dX2_reachableNodes_25 ⟨by decide, by decide⟩) (fun u hu => ?_)
      refine g_bif_eq (tgt := 57) B dX2_reachableNodes_28 (by decide) (fun c7 => ?_) (fun c7 => ?_)
      · refine g_eqlv (lv2 := [(0, .ref hp), (1, .long (ks_rE P (ks_rR P r) (e + 1))), (3, .int (nI r)), (4, .int (nI e))]) (by rw [show ks_rE P (ks_rR P r) (e + 1) = (if hasB (ks_rE P (ks_rR P r) e) (e / 2) && decide (P.2.2.2.1 e < 12) then ks_rE P (ks_rR P r) e ||| lShl 1 (nI (P.2.2.2.1 e)) else ks_rE P (ks_rR P r) e) from rfl]; rw [c7]; rfl) ?_
        refine g_iinc (lv' := [(0, .ref hp), (1, .long (ks_rE P (ks_rR P r) (e + 1))), (3, .int (nI r)), (4, .int (nI (e + 1)))]) B dX2_reachableNodes_57 3 rfl (nI_1 e) (by decide) [1, 2, 3, 0] rfl ?_
        refine g_goto (tgt := 13) B dX2_reachableNodes_60 (by decide) ?_
        exact ih13 (e + 1) (by (try dsimp only); omega) (by (try dsimp only); omega)
      · refine g_aload_n B dX2_reachableNodes_31 0 rfl ?_
        refine g_get (C := RX2) (T := TX2) (N := 5) (ci := 2) B hK hin_X2_reachableNodes_RX2 0 rfl rfl 3 (by decide) (List.mem_of_getElem? (i := 1) rfl) rfl (v := .ref p3) rfl dX2_reachableNodes_32 ?_
        refine g_iload B dX2_reachableNodes_35 3 rfl ?_
        refine g_iald B hK 1 0 rfl rfl e rfl (by omega) (by omega) (v := ks_tI (P.2.2.2.1 e)) rfl dX2_reachableNodes_37 ?_
        refine g_callP (g_runSN B hN (PM.met (k_isNode_t l (D := D) (cI := cI) (cL := cL) (cZ := cZ) (cQ := cQ) (P.2.2.2.1 e) )) (gPp.pre (av := [.int (ks_tI (P.2.2.2.1 e))]) (wc := []) hK hN [] rfl (by decide)) gX2_reachableNodes_X5_isNode_n39 (List.mem_of_getElem? (i := 3) rfl) (List.mem_of_getElem? (i := 5) rfl) 8 rfl rfl kd_X5_isNode ⟨by decide, by decide⟩ (st := []) rfl (Nat.le_of_ble_eq_true rfl) dX2_reachableNodes_38 ⟨by decide, by decide⟩) (fun u hu => ?_)
        refine g_bif_eq (tgt := 57) B dX2_reachableNodes_41 (by decide) (fun c9 => ?_) (fun c9 => ?_)
        · refine g_eqlv (lv2 := [(0, .ref hp), (1, .long (ks_rE P (ks_rR P r) (e + 1))), (3, .int (nI r)), (4, .int (nI e))]) (by rw [show ks_rE P (ks_rR P r) (e + 1) = (if hasB (ks_rE P (ks_rR P r) e) (e / 2) && decide (P.2.2.2.1 e < 12) then ks_rE P (ks_rR P r) e ||| lShl 1 (nI (P.2.2.2.1 e)) else ks_rE P (ks_rR P r) e) from rfl]; rw [c7, c9]; rfl) ?_
          refine g_iinc (lv' := [(0, .ref hp), (1, .long (ks_rE P (ks_rR P r) (e + 1))), (3, .int (nI r)), (4, .int (nI (e + 1)))]) B dX2_reachableNodes_57 3 rfl (nI_1 e) (by decide) [1, 2, 3, 0] rfl ?_
          refine g_goto (tgt := 13) B dX2_reachableNodes_60 (by decide) ?_
          exact ih13 (e + 1) (by (try dsimp only); omega) (by (try dsimp only); omega)
        · have hx := of_decide_eq_true c9
          refine g_lload_n B dX2_reachableNodes_44 1 rfl ?_
          refine g_aload_n B dX2_reachableNodes_45 0 rfl ?_
          refine g_get (C := RX2) (T := TX2) (N := 5) (ci := 2) B hK hin_X2_reachableNodes_RX2 0 rfl rfl 3 (by decide) (List.mem_of_getElem? (i := 1) rfl) rfl (v := .ref p3) rfl dX2_reachableNodes_46 ?_
          refine g_iload B dX2_reachableNodes_49 3 rfl ?_
          refine g_iald B hK 1 0 rfl rfl e rfl (by omega) (by omega) (v := ks_tI (P.2.2.2.1 e)) rfl dX2_reachableNodes_51 ?_
          refine g_eqi (y := nI (P.2.2.2.1 e)) (ks_tI_lt hx) ?_
          refine g_callP (g_runSN B hN (PM.met (k_bit l (D := D) (cI := cI) (cL := cL) (cZ := cZ) (cQ := cQ) (P.2.2.2.1 e) (by first | with_reducible assumption | omega | assumption))) (gPp.pre (av := [.int (nI (P.2.2.2.1 e))]) (wc := []) hK hN [] rfl (by decide)) gX2_reachableNodes_X5_bit_n62 (List.mem_of_getElem? (i := 3) rfl) (List.mem_of_getElem? (i := 7) rfl) 11 rfl rfl kd_X5_bit ⟨by decide, by decide⟩ (st := [.long (ks_rE P (ks_rR P r) e)]) rfl (Nat.le_of_ble_eq_true rfl) dX2_reachableNodes_52 ⟨by decide, by decide⟩) (fun u hu => ?_)
          refine g_lor (v := ((ks_rE P (ks_rR P r) e) ||| (lShl 1 (nI (P.2.2.2.1 e))))) B dX2_reachableNodes_55 (rfl) ?_
          refine g_lstore_n (lv' := [(0, .ref hp), (1, .long ((ks_rE P (ks_rR P r) e) ||| (lShl 1 (nI (P.2.2.2.1 e))))), (3, .int (nI r)), (4, .int (nI e))]) B dX2_reachableNodes_56 rfl (by decide) [1, 0, 2, 3] rfl ?_
          refine g_eqlv (lv2 := [(0, .ref hp), (1, .long (ks_rE P (ks_rR P r) (e + 1))), (3, .int (nI r)), (4, .int (nI e))]) (by rw [show ks_rE P (ks_rR P r) (e + 1) = (if hasB (ks_rE P (ks_rR P r) e) (e / 2) && decide (P.2.2.2.1 e < 12) then ks_rE P (ks_rR P r) e ||| lShl 1 (nI (P.2.2.2.1 e)) else ks_rE P (ks_rR P r) e) from rfl]; rw [c7, c9]; rfl) ?_
          refine g_iinc (lv' := [(0, .ref hp), (1, .long (ks_rE P (ks_rR P r) (e + 1))), (3, .int (nI r)), (4, .int (nI (e + 1)))]) B dX2_reachableNodes_57 3 rfl (nI_1 e) (by decide) [1, 2, 3, 0] rfl ?_
          refine g_goto (tgt := 13) B dX2_reachableNodes_60 (by decide) ?_
          exact ih13 (e + 1) (by (try dsimp only); omega) (by (try dsimp only); omega)

set_option maxHeartbeats 4000000 in
set_option maxRecDepth 100000 in
theorem k_setQuestion (l : Launch) {D : va_G} {cI cL cZ cQ : ClassId} (hp : Nat) (p0 : Nat) (p1 : Nat) (p2 : Nat) (p3 : Nat) (p4 : Nat) (P : Pg) (b1 : Nat) (b2 : Nat) (b3 : Nat) (b4 : Nat) (h1 : b1 < 12) : WM l yX2_setQuestion wsX2_setQuestion ({ frames := 0, cells := 0, slots := 0, locals := 0 } : Room) D (gTys cI cL cZ cQ) [.ref hp, .int (nI b1), .int (nI b2), .int (nI b3), .int (nI b4)] [(hp, .inr (2, [.ref p0, .ref p1, .ref p2, .ref p3, .ref p4])), (p0, .inl (cI, 12, .inl (fun i => nI (P.1 i)))), (p1, .inl (cI, 12, .inl (fun i => nI (P.2.1 i)))), (p2, .inl (cI, 12, .inl (fun i => nI (P.2.2.1 i))))] (fun (_ : Unit) => True) (fun (_ : Unit) => none) (fun (_ : Unit) => [(hp, .inr (2, [.ref p0, .ref p1, .ref p2, .ref p3, .ref p4])), (p0, .inl (cI, 12, .inl (fun i => nI ((ks_setQ P b1 b2 b3 b4).1 i)))), (p1, .inl (cI, 12, .inl (fun i => nI ((ks_setQ P b1 b2 b3 b4).2.1 i)))), (p2, .inl (cI, 12, .inl (fun i => nI ((ks_setQ P b1 b2 b3 b4).2.2.1 i))))]) := by
  refine WM.ofG cX2_setQuestion 5 none (by decide +kernel) rfl (Nat.le_of_ble_eq_true rfl) ?_
  intro p e s m below meth c A hA B hr hlocks hname hK hN
  refine g_aload_n B dX2_setQuestion_0 0 rfl ?_
  refine g_get (C := RX2) (T := TX2) (N := 5) (ci := 2) B hK hin_X2_setQuestion_RX2 0 rfl rfl 0 (by decide) (List.mem_of_getElem? (i := 1) rfl) rfl (v := .ref p0) rfl dX2_setQuestion_1 ?_
  refine g_iload_n B dX2_setQuestion_4 1 rfl ?_
  refine g_iload_n B dX2_setQuestion_5 2 rfl ?_
  refine g_iast B hK 1 0 rfl rfl b1 rfl (by omega) (by omega) (f2 := (fun i => nI ((updN P.1 b1 b2) i))) (upd_nI _ _ _) (w2 := [(hp, .inr (2, [.ref p0, .ref p1, .ref p2, .ref p3, .ref p4])), (p0, .inl (cI, 12, .inl (fun i => nI ((updN P.1 b1 b2) i)))), (p1, .inl (cI, 12, .inl (fun i => nI (P.2.1 i)))), (p2, .inl (cI, 12, .inl (fun i => nI (P.2.2.1 i))))]) rfl (fun _ h => h) dX2_setQuestion_6 ?_
  refine g_aload_n B dX2_setQuestion_7 0 rfl ?_
  refine g_get (C := RX2) (T := TX2) (N := 5) (ci := 2) B hK hin_X2_setQuestion_RX2 0 rfl rfl 1 (by decide) (List.mem_of_getElem? (i := 2) rfl) rfl (v := .ref p1) rfl dX2_setQuestion_8 ?_
  refine g_iload_n B dX2_setQuestion_11 1 rfl ?_
  refine g_iload_n B dX2_setQuestion_12 3 rfl ?_
  refine g_iast B hK 2 0 rfl rfl b1 rfl (by omega) (by omega) (f2 := (fun i => nI ((updN P.2.1 b1 b3) i))) (upd_nI _ _ _) (w2 := [(hp, .inr (2, [.ref p0, .ref p1, .ref p2, .ref p3, .ref p4])), (p0, .inl (cI, 12, .inl (fun i => nI ((updN P.1 b1 b2) i)))), (p1, .inl (cI, 12, .inl (fun i => nI ((updN P.2.1 b1 b3) i)))), (p2, .inl (cI, 12, .inl (fun i => nI (P.2.2.1 i))))]) rfl (fun _ h => h) dX2_setQuestion_13 ?_
  refine g_aload_n B dX2_setQuestion_14 0 rfl ?_
  refine g_get (C := RX2) (T := TX2) (N := 5) (ci := 2) B hK hin_X2_setQuestion_RX2 0 rfl rfl 2 (by decide) (List.mem_of_getElem? (i := 3) rfl) rfl (v := .ref p2) rfl dX2_setQuestion_15 ?_
  refine g_iload_n B dX2_setQuestion_18 1 rfl ?_
  refine g_iload B dX2_setQuestion_19 4 rfl ?_
  refine g_iast B hK 3 0 rfl rfl b1 rfl (by omega) (by omega) (f2 := (fun i => nI ((updN P.2.2.1 b1 b4) i))) (upd_nI _ _ _) (w2 := [(hp, .inr (2, [.ref p0, .ref p1, .ref p2, .ref p3, .ref p4])), (p0, .inl (cI, 12, .inl (fun i => nI ((updN P.1 b1 b2) i)))), (p1, .inl (cI, 12, .inl (fun i => nI ((updN P.2.1 b1 b3) i)))), (p2, .inl (cI, 12, .inl (fun i => nI ((updN P.2.2.1 b1 b4) i))))]) rfl (fun _ h => h) dX2_setQuestion_21 ?_
  exact g_vret_w B hr hlocks () (rfl) (trivial) [0, 1, 2, 3] (by decide) rfl dX2_setQuestion_22

set_option maxHeartbeats 4000000 in
set_option maxRecDepth 100000 in
theorem k_setTargets (l : Launch) {D : va_G} {cI cL cZ cQ : ClassId} (hp : Nat) (p0 : Nat) (p1 : Nat) (p2 : Nat) (p3 : Nat) (p4 : Nat) (P : Pg) (b1 : Nat) (b2 : Nat) (b3 : Nat) (h1 : b1 < 12) : WM l yX2_setTargets wsX2_setTargets ({ frames := 0, cells := 0, slots := 0, locals := 0 } : Room) D (gTys cI cL cZ cQ) [.ref hp, .int (nI b1), .int (ks_tI b2), .int (ks_tI b3)] [(hp, .inr (2, [.ref p0, .ref p1, .ref p2, .ref p3, .ref p4])), (p3, .inl (cI, 24, .inl (fun i => ks_tI (P.2.2.2.1 i))))] (fun (_ : Unit) => True) (fun (_ : Unit) => none) (fun (_ : Unit) => [(hp, .inr (2, [.ref p0, .ref p1, .ref p2, .ref p3, .ref p4])), (p3, .inl (cI, 24, .inl (fun i => ks_tI ((ks_setT P b1 b2 b3).2.2.2.1 i))))]) := by
  refine WM.ofG cX2_setTargets 4 none (by decide +kernel) rfl (Nat.le_of_ble_eq_true rfl) ?_
  intro p e s m below meth c A hA B hr hlocks hname hK hN
  refine g_aload_n B dX2_setTargets_0 0 rfl ?_
  refine g_get (C := RX2) (T := TX2) (N := 5) (ci := 2) B hK hin_X2_setTargets_RX2 0 rfl rfl 3 (by decide) (List.mem_of_getElem? (i := 1) rfl) rfl (v := .ref p3) rfl dX2_setTargets_1 ?_
  refine g_iconst (v := (2 : Int32)) B dX2_setTargets_4 (by decide) ?_
  refine g_iload_n B dX2_setTargets_5 1 rfl ?_
  refine g_imul (v := nI (2 * b1)) B dX2_setTargets_6 (pk_mul 2 b1) ?_
  refine g_iload_n B dX2_setTargets_7 2 rfl ?_
  refine g_iast B hK 1 0 rfl rfl (2 * b1) rfl (by omega) (by omega) (f2 := (fun i => ks_tI ((updN P.2.2.2.1 (2 * b1) b2) i))) (upd_tI _ _ _) (w2 := [(hp, .inr (2, [.ref p0, .ref p1, .ref p2, .ref p3, .ref p4])), (p3, .inl (cI, 24, .inl (fun i => ks_tI ((updN P.2.2.2.1 (2 * b1) b2) i))))]) rfl (fun _ h => h) dX2_setTargets_8 ?_
  refine g_aload_n B dX2_setTargets_9 0 rfl ?_
  refine g_get (C := RX2) (T := TX2) (N := 5) (ci := 2) B hK hin_X2_setTargets_RX2 0 rfl rfl 3 (by decide) (List.mem_of_getElem? (i := 1) rfl) rfl (v := .ref p3) rfl dX2_setTargets_10 ?_
  refine g_iconst (v := (2 : Int32)) B dX2_setTargets_13 (by decide) ?_
  refine g_iload_n B dX2_setTargets_14 1 rfl ?_
  refine g_imul (v := nI (2 * b1)) B dX2_setTargets_15 (pk_mul 2 b1) ?_
  refine g_iconst (v := (1 : Int32)) B dX2_setTargets_16 (by decide) ?_
  refine g_iadd (v := nI ((2 * b1) + 1)) B dX2_setTargets_17 (nI_add (2 * b1) 1) ?_
  refine g_iload_n B dX2_setTargets_18 3 rfl ?_
  refine g_iast B hK 1 0 rfl rfl ((2 * b1) + 1) rfl (by omega) (by omega) (f2 := (fun i => ks_tI ((updN (updN P.2.2.2.1 (2 * b1) b2) ((2 * b1) + 1) b3) i))) (upd_tI _ _ _) (w2 := [(hp, .inr (2, [.ref p0, .ref p1, .ref p2, .ref p3, .ref p4])), (p3, .inl (cI, 24, .inl (fun i => ks_tI ((updN (updN P.2.2.2.1 (2 * b1) b2) ((2 * b1) + 1) b3) i))))]) rfl (fun _ h => h) dX2_setTargets_19 ?_
  exact g_vret_w B hr hlocks () (rfl) (trivial) [0, 1] (by decide) rfl dX2_setTargets_20

set_option maxHeartbeats 4000000 in
set_option maxRecDepth 100000 in
theorem k_setBad (l : Launch) {D : va_G} {cI cL cZ cQ : ClassId} (hp : Nat) (p0 : Nat) (p1 : Nat) (p2 : Nat) (p3 : Nat) (p4 : Nat) (P : Pg) (b1 : Nat) (b2 : Bool) (h1 : b1 < 12) : WM l yX2_setBad wsX2_setBad ({ frames := 0, cells := 0, slots := 0, locals := 0 } : Room) D (gTys cI cL cZ cQ) [.ref hp, .int (nI b1), .int (bI b2)] [(hp, .inr (2, [.ref p0, .ref p1, .ref p2, .ref p3, .ref p4])), (p4, .inl (cZ, 12, .inl (fun i => bI (P.2.2.2.2 i))))] (fun (_ : Unit) => True) (fun (_ : Unit) => none) (fun (_ : Unit) => [(hp, .inr (2, [.ref p0, .ref p1, .ref p2, .ref p3, .ref p4])), (p4, .inl (cZ, 12, .inl (fun i => bI ((ks_setB P b1 b2).2.2.2.2 i))))]) := by
  refine WM.ofG cX2_setBad 3 none (by decide +kernel) rfl (Nat.le_of_ble_eq_true rfl) ?_
  intro p e s m below meth c A hA B hr hlocks hname hK hN
  refine g_aload_n B dX2_setBad_0 0 rfl ?_
  refine g_get (C := RX2) (T := TX2) (N := 5) (ci := 2) B hK hin_X2_setBad_RX2 0 rfl rfl 4 (by decide) (List.mem_of_getElem? (i := 1) rfl) rfl (v := .ref p4) rfl dX2_setBad_1 ?_
  refine g_iload_n B dX2_setBad_4 1 rfl ?_
  refine g_iload_n B dX2_setBad_5 2 rfl ?_
  refine g_zast B hK 1 2 rfl rfl b1 rfl (by omega) (by omega) (f2 := (fun i => bI ((updB P.2.2.2.2 b1 b2) i))) (upd_bI _ _ b2) (w2 := [(hp, .inr (2, [.ref p0, .ref p1, .ref p2, .ref p3, .ref p4])), (p4, .inl (cZ, 12, .inl (fun i => bI ((updB P.2.2.2.2 b1 b2) i))))]) rfl (fun _ h => h) dX2_setBad_6 ?_
  exact g_vret_w B hr hlocks () (rfl) (trivial) [0, 1] (by decide) rfl dX2_setBad_7

