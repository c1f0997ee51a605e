/-! the class on a fresh object: generator -/
theorem kd_X1_drawnBelow : yX1_drawnBelow.cls ≠ "java/lang/invoke/MethodHandle" ∧ yX1_drawnBelow.cls ≠ "java/lang/invoke/VarHandle" ∧ (parseMethodDescriptor yX1_drawnBelow.desc).map (fun d => d.parameters.length) = some 1 := by decide +kernel
theorem kd_X1_nextValue : yX1_nextValue.cls ≠ "java/lang/invoke/MethodHandle" ∧ yX1_nextValue.cls ≠ "java/lang/invoke/VarHandle" ∧ (parseMethodDescriptor yX1_nextValue.desc).map (fun d => d.parameters.length) = some 1 := by decide +kernel
theorem kd_X1_weightOf : yX1_weightOf.cls ≠ "java/lang/invoke/MethodHandle" ∧ yX1_weightOf.cls ≠ "java/lang/invoke/VarHandle" ∧ (parseMethodDescriptor yX1_weightOf.desc).map (fun d => d.parameters.length) = some 1 := by decide +kernel
theorem hin_X1_drawnBelow_RX1 : ∀ z ∈ u_ws RX1 TX1 4, z ∈ wsX1_drawnBelow := by decide +kernel
theorem hin_X1_nextValue_RX1 : ∀ z ∈ u_ws RX1 TX1 4, z ∈ wsX1_nextValue := by decide +kernel
theorem hin_X1_setWeights_RX1 : ∀ z ∈ u_ws RX1 TX1 4, z ∈ wsX1_setWeights := by decide +kernel
theorem hin_X1_weightOf_RX1 : ∀ z ∈ u_ws RX1 TX1 4, z ∈ wsX1_weightOf := by decide +kernel
set_option maxHeartbeats 4000000 in
set_option maxRecDepth 100000 in
theorem k_weightOf (l : Launch) {D : va_G} {cI cL cZ : ClassId} (hg : Nat) (g0 : Nat) (g1 : Nat) (g2 : Nat) (sd0 : Int32) (b1 : Nat) (h1 : b1 < 4) : PM l yX1_weightOf wsX1_weightOf ({ frames := 0, cells := 0, slots := 0, locals := 0 } : Room) D (gTys cI cL cZ) [.ref hg, .int (nI b1)] [(hg, .inr (1, [.ref g0, .ref g1, .ref g2, .int sd0])), (g0, .inl (cI, 4, .inl (fun _ => (1 : Int32)))), (g1, .inl (cI, 4, .inl (fun _ => (1 : Int32)))), (g2, .inl (cI, 4, .inl (fun _ => (1 : Int32))))] (fun (_ : Unit) => True) (fun (_ : Unit) => some (.int (3 : Int32))) := by
  refine PM.ofG cX1_weightOf 2 (some .int) (by decide +kernel) rfl (Nat.le_of_ble_eq_true rfl) ?_
  intro p e s m below meth c B hr hlocks hname hK hN
  refine g_aload_n B dX1_weightOf_0 0 rfl ?_
  refine g_get (C := RX1) (T := TX1) (N := 4) (ci := 1) B hK hin_X1_weightOf_RX1 0 rfl rfl 0 (by decide) (List.mem_of_getElem? (i := 1) rfl) rfl (v := .ref g0) rfl dX1_weightOf_1 ?_
  refine g_iload_n B dX1_weightOf_4 1 rfl ?_
  refine g_iald B hK 1 0 rfl rfl b1 rfl (by omega) (by omega) (v := (1 : Int32)) rfl dX1_weightOf_5 ?_
  refine g_aload_n B dX1_weightOf_6 0 rfl ?_
  refine g_get (C := RX1) (T := TX1) (N := 4) (ci := 1) B hK hin_X1_weightOf_RX1 0 rfl rfl 1 (by decide) (List.mem_of_getElem? (i := 2) rfl) rfl (v := .ref g1) rfl dX1_weightOf_7 ?_
  refine g_iload_n B dX1_weightOf_10 1 rfl ?_
  refine g_iald B hK 2 0 rfl rfl b1 rfl (by omega) (by omega) (v := (1 : Int32)) rfl dX1_weightOf_11 ?_
  refine g_iadd (v := (2 : Int32)) B dX1_weightOf_12 (by decide) ?_
  refine g_aload_n B dX1_weightOf_13 0 rfl ?_
  refine g_get (C := RX1) (T := TX1) (N := 4) (ci := 1) B hK hin_X1_weightOf_RX1 0 rfl rfl 2 (by decide) (List.mem_of_getElem? (i := 3) rfl) rfl (v := .ref g2) rfl dX1_weightOf_14 ?_
  refine g_iload_n B dX1_weightOf_17 1 rfl ?_
  refine g_iald B hK 3 0 rfl rfl b1 rfl (by omega) (by omega) (v := (1 : Int32)) rfl dX1_weightOf_18 ?_
  refine g_iadd (v := (3 : Int32)) B dX1_weightOf_19 (by decide) ?_
  exact g_iret_p B hr rfl hlocks () (rfl) (trivial) dX1_weightOf_20

set_option maxHeartbeats 4000000 in
set_option maxRecDepth 100000 in
theorem k_setWeights (l : Launch) {D : va_G} {cI cL cZ : ClassId} (hg : Nat) (g0 : Nat) (g1 : Nat) (g2 : Nat) (sd0 : Int32) (b1 : Nat) (b2 : Int32) (b3 : Int32) (b4 : Int32) (h1 : b1 < 4) : WM l yX1_setWeights wsX1_setWeights ({ frames := 0, cells := 0, slots := 0, locals := 0 } : Room) D (gTys cI cL cZ) [.ref hg, .int (nI b1), .int b2, .int b3, .int b4] [(hg, .inr (1, [.ref g0, .ref g1, .ref g2, .int sd0])), (g0, .inl (cI, 4, .inl (fun _ => (1 : Int32)))), (g1, .inl (cI, 4, .inl (fun _ => (1 : Int32)))), (g2, .inl (cI, 4, .inl (fun _ => (1 : Int32))))] (fun (_ : Unit) => True) (fun (_ : Unit) => none) (fun (_ : Unit) => [(hg, .inr (1, [.ref g0, .ref g1, .ref g2, .int sd0]))]) := by
  refine WM.ofG cX1_setWeights 5 none (by decide +kernel) rfl (Nat.le_of_ble_eq_true rfl) ?_
  intro p e s m below meth c A hA B hr hlocks hname hK hN
  refine g_aload_n B dX1_setWeights_0 0 rfl ?_
  refine g_get (C := RX1) (T := TX1) (N := 4) (ci := 1) B hK hin_X1_setWeights_RX1 0 rfl rfl 0 (by decide) (List.mem_of_getElem? (i := 1) rfl) rfl (v := .ref g0) rfl dX1_setWeights_1 ?_
  refine g_iload_n B dX1_setWeights_4 1 rfl ?_
  refine g_iload_n B dX1_setWeights_5 2 rfl ?_
  refine g_iast B hK 1 0 rfl rfl b1 rfl (by omega) (by omega) (f2 := (upd (fun _ => (1 : Int32)) b1 b2)) (rfl) (w2 := [(hg, .inr (1, [.ref g0, .ref g1, .ref g2, .int sd0])), (g0, .inl (cI, 4, .inl (upd (fun _ => (1 : Int32)) b1 b2))), (g1, .inl (cI, 4, .inl (fun _ => (1 : Int32)))), (g2, .inl (cI, 4, .inl (fun _ => (1 : Int32))))]) rfl (fun _ h => h) dX1_setWeights_6 ?_
  refine g_aload_n B dX1_setWeights_7 0 rfl ?_
  refine g_get (C := RX1) (T := TX1) (N := 4) (ci := 1) B hK hin_X1_setWeights_RX1 0 rfl rfl 1 (by decide) (List.mem_of_getElem? (i := 2) rfl) rfl (v := .ref g1) rfl dX1_setWeights_8 ?_
  refine g_iload_n B dX1_setWeights_11 1 rfl ?_
  refine g_iload_n B dX1_setWeights_12 3 rfl ?_
  refine g_iast B hK 2 0 rfl rfl b1 rfl (by omega) (by omega) (f2 := (upd (fun _ => (1 : Int32)) b1 b3)) (rfl) (w2 := [(hg, .inr (1, [.ref g0, .ref g1, .ref g2, .int sd0])), (g0, .inl (cI, 4, .inl (upd (fun _ => (1 : Int32)) b1 b2))), (g1, .inl (cI, 4, .inl (upd (fun _ => (1 : Int32)) b1 b3))), (g2, .inl (cI, 4, .inl (fun _ => (1 : Int32))))]) rfl (fun _ h => h) dX1_setWeights_13 ?_
  refine g_aload_n B dX1_setWeights_14 0 rfl ?_
  refine g_get (C := RX1) (T := TX1) (N := 4) (ci := 1) B hK hin_X1_setWeights_RX1 0 rfl rfl 2 (by decide) (List.mem_of_getElem? (i := 3) rfl) rfl (v := .ref g2) rfl dX1_setWeights_15 ?_
  refine g_iload_n B dX1_setWeights_18 1 rfl ?_
  refine g_iload B dX1_setWeights_19 4 rfl ?_
  refine g_iast B hK 3 0 rfl rfl b1 rfl (by omega) (by omega) (f2 := (upd (fun _ => (1 : Int32)) b1 b4)) (rfl) (w2 := [(hg, .inr (1, [.ref g0, .ref g1, .ref g2, .int sd0])), (g0, .inl (cI, 4, .inl (upd (fun _ => (1 : Int32)) b1 b2))), (g1, .inl (cI, 4, .inl (upd (fun _ => (1 : Int32)) b1 b3))), (g2, .inl (cI, 4, .inl (upd (fun _ => (1 : Int32)) b1 b4)))]) rfl (fun _ h => h) dX1_setWeights_21 ?_
  exact g_vret_w B hr hlocks () (rfl) (trivial) [0] (by decide) rfl dX1_setWeights_22

set_option maxHeartbeats 4000000 in
set_option maxRecDepth 100000 in
theorem k_drawnBelow_3 (l : Launch) {D : va_G} {cI cL cZ : ClassId} (hg : Nat) (g0 : Nat) (g1 : Nat) (g2 : Nat) (sd : Nat) (hs : sd < 10000) : WM l yX1_drawnBelow wsX1_drawnBelow ({ frames := 0, cells := 0, slots := 0, locals := 0 } : Room) D (gTys cI cL cZ) [.ref hg, .int (3 : Int32)] [(hg, .inr (1, [.ref g0, .ref g1, .ref g2, .int (nI sd)]))] (fun (_ : Unit) => True) (fun (_ : Unit) => some (.int (nI ((sd * 421 + 1663) % 10000 / 100 % 3)))) (fun (_ : Unit) => [(hg, .inr (1, [.ref g0, .ref g1, .ref g2, .int (nI ((sd * 421 + 1663) % 10000))]))]) := by
  refine WM.ofG cX1_drawnBelow 2 (some .int) (by decide +kernel) rfl (Nat.le_of_ble_eq_true rfl) ?_
  intro p e s m below meth c A hA B hr hlocks hname hK hN
  refine g_aload_n B dX1_drawnBelow_0 0 rfl ?_
  refine g_aload_n B dX1_drawnBelow_1 0 rfl ?_
  refine g_get (C := RX1) (T := TX1) (N := 4) (ci := 1) B hK hin_X1_drawnBelow_RX1 0 rfl rfl 3 (by decide) (List.mem_of_getElem? (i := 1) rfl) rfl (v := .int (nI sd)) rfl dX1_drawnBelow_2 ?_
  refine g_sipush (v := (421 : Int32)) B dX1_drawnBelow_5 (by decide) ?_
  refine g_imul (v := nI (sd * 421)) B dX1_drawnBelow_8 (pk_mul sd 421) ?_
  refine g_sipush (v := (1663 : Int32)) B dX1_drawnBelow_9 (by decide) ?_
  refine g_iadd (v := nI ((sd * 421) + 1663)) B dX1_drawnBelow_12 (nI_add (sd * 421) 1663) ?_
  refine g_sipush (v := (10000 : Int32)) B dX1_drawnBelow_13 (by decide) ?_
  refine g_irem (v := nI (((sd * 421) + 1663) % 10000)) B dX1_drawnBelow_16 (by decide) (pk_rem (a := (sd * 421) + 1663) (d := 10000) (by omega) (by decide) (by decide)) ?_
  refine g_put (C := RX1) (T := TX1) (N := 4) (ci := 1) B hK hin_X1_drawnBelow_RX1 0 rfl rfl 3 (by decide) tyX1 tyX1_ok nmX1 (List.mem_of_getElem? (i := 1) rfl) rfl rfl (ty := .int) (v := .int (nI (((sd * 421) + 1663) % 10000))) (by decide +kernel) rfl rfl (Nat.le_of_ble_eq_true rfl) (w2 := [(hg, .inr (1, [.ref g0, .ref g1, .ref g2, .int (nI (((sd * 421) + 1663) % 10000))]))]) rfl (fun _ h => h) dX1_drawnBelow_17 ?_
  refine g_iload_n B dX1_drawnBelow_20 1 rfl ?_
  refine g_iconst (v := (1 : Int32)) B dX1_drawnBelow_21 (by decide) ?_
  refine g_icmp_ge (tgt := 29) B dX1_drawnBelow_22 (by decide) (fun _ => ?_) (fun c1 => absurd (by decide) c1)
  refine g_aload_n B dX1_drawnBelow_29 0 rfl ?_
  refine g_get (C := RX1) (T := TX1) (N := 4) (ci := 1) B hK hin_X1_drawnBelow_RX1 0 rfl rfl 3 (by decide) (List.mem_of_getElem? (i := 1) rfl) rfl (v := .int (nI (((sd * 421) + 1663) % 10000))) rfl dX1_drawnBelow_30 ?_
  refine g_bipush (v := (100 : Int32)) B dX1_drawnBelow_33 (by decide) ?_
  refine g_idiv (v := nI ((((sd * 421) + 1663) % 10000) / 100)) B dX1_drawnBelow_35 (by decide) (pk_div (a := ((sd * 421) + 1663) % 10000) (d := 100) (by omega) (by decide) (by decide)) ?_
  refine g_iload_n B dX1_drawnBelow_36 1 rfl ?_
  refine g_irem (v := nI (((((sd * 421) + 1663) % 10000) / 100) % 3)) B dX1_drawnBelow_37 (by decide) (pk_rem (a := (((sd * 421) + 1663) % 10000) / 100) (d := 3) (by omega) (by decide) (by decide)) ?_
  exact g_iret_w B hr rfl hlocks () (rfl) (trivial) [0] (by decide) rfl dX1_drawnBelow_38

set_option maxHeartbeats 4000000 in
set_option maxRecDepth 100000 in
theorem k_drawnBelow_4 (l : Launch) {D : va_G} {cI cL cZ : ClassId} (hg : Nat) (g0 : Nat) (g1 : Nat) (g2 : Nat) (sd : Nat) (hs : sd < 10000) : WM l yX1_drawnBelow wsX1_drawnBelow ({ frames := 0, cells := 0, slots := 0, locals := 0 } : Room) D (gTys cI cL cZ) [.ref hg, .int (4 : Int32)] [(hg, .inr (1, [.ref g0, .ref g1, .ref g2, .int (nI sd)]))] (fun (_ : Unit) => True) (fun (_ : Unit) => some (.int (nI ((sd * 421 + 1663) % 10000 / 100 % 4)))) (fun (_ : Unit) => [(hg, .inr (1, [.ref g0, .ref g1, .ref g2, .int (nI ((sd * 421 + 1663) % 10000))]))]) := by
  refine WM.ofG cX1_drawnBelow 2 (some .int) (by decide +kernel) rfl (Nat.le_of_ble_eq_true rfl) ?_
  intro p e s m below meth c A hA B hr hlocks hname hK hN
  refine g_aload_n B dX1_drawnBelow_0 0 rfl ?_
  refine g_aload_n B dX1_drawnBelow_1 0 rfl ?_
  refine g_get (C := RX1) (T := TX1) (N := 4) (ci := 1) B hK hin_X1_drawnBelow_RX1 0 rfl rfl 3 (by decide) (List.mem_of_getElem? (i := 1) rfl) rfl (v := .int (nI sd)) rfl dX1_drawnBelow_2 ?_
  refine g_sipush (v := (421 : Int32)) B dX1_drawnBelow_5 (by decide) ?_
  refine g_imul (v := nI (sd * 421)) B dX1_drawnBelow_8 (pk_mul sd 421) ?_
  refine g_sipush (v := (1663 : Int32)) B dX1_drawnBelow_9 (by decide) ?_
  refine g_iadd (v := nI ((sd * 421) + 1663)) B dX1_drawnBelow_12 (nI_add (sd * 421) 1663) ?_
  refine g_sipush (v := (10000 : Int32)) B dX1_drawnBelow_13 (by decide) ?_
  refine g_irem (v := nI (((sd * 421) + 1663) % 10000)) B dX1_drawnBelow_16 (by decide) (pk_rem (a := (sd * 421) + 1663) (d := 10000) (by omega) (by decide) (by decide)) ?_
  refine g_put (C := RX1) (T := TX1) (N := 4) (ci := 1) B hK hin_X1_drawnBelow_RX1 0 rfl rfl 3 (by decide) tyX1 tyX1_ok nmX1 (List.mem_of_getElem? (i := 1) rfl) rfl rfl (ty := .int) (v := .int (nI (((sd * 421) + 1663) % 10000))) (by decide +kernel) rfl rfl (Nat.le_of_ble_eq_true rfl) (w2 := [(hg, .inr (1, [.ref g0, .ref g1, .ref g2, .int (nI (((sd * 421) + 1663) % 10000))]))]) rfl (fun _ h => h) dX1_drawnBelow_17 ?_
  refine g_iload_n B dX1_drawnBelow_20 1 rfl ?_
  refine g_iconst (v := (1 : Int32)) B dX1_drawnBelow_21 (by decide) ?_
  refine g_icmp_ge (tgt := 29) B dX1_drawnBelow_22 (by decide) (fun _ => ?_) (fun c1 => absurd (by decide) c1)
  refine g_aload_n B dX1_drawnBelow_29 0 rfl ?_
  refine g_get (C := RX1) (T := TX1) (N := 4) (ci := 1) B hK hin_X1_drawnBelow_RX1 0 rfl rfl 3 (by decide) (List.mem_of_getElem? (i := 1) rfl) rfl (v := .int (nI (((sd * 421) + 1663) % 10000))) rfl dX1_drawnBelow_30 ?_
  refine g_bipush (v := (100 : Int32)) B dX1_drawnBelow_33 (by decide) ?_
  refine g_idiv (v := nI ((((sd * 421) + 1663) % 10000) / 100)) B dX1_drawnBelow_35 (by decide) (pk_div (a := ((sd * 421) + 1663) % 10000) (d := 100) (by omega) (by decide) (by decide)) ?_
  refine g_iload_n B dX1_drawnBelow_36 1 rfl ?_
  refine g_irem (v := nI (((((sd * 421) + 1663) % 10000) / 100) % 4)) B dX1_drawnBelow_37 (by decide) (pk_rem (a := (((sd * 421) + 1663) % 10000) / 100) (d := 4) (by omega) (by decide) (by decide)) ?_
  exact g_iret_w B hr rfl hlocks () (rfl) (trivial) [0] (by decide) rfl dX1_drawnBelow_38

set_option maxHeartbeats 4000000 in
set_option maxRecDepth 100000 in
theorem k_nextValue_c0 (l : Launch) {D : va_G} {cI cL cZ : ClassId} (hg : Nat) (g0 : Nat) (g1 : Nat) (g2 : Nat) (b1 : Nat) (h1 : b1 < 4) : WM l yX1_nextValue wsX1_nextValue ({ frames := 1, cells := 0, slots := 0, locals := 21 } : Room) D (gTys cI cL cZ) [.ref hg, .int (nI b1)] [(hg, .inr (1, [.ref g0, .ref g1, .ref g2, .int (1 : Int32)])), (g0, .inl (cI, 4, .inl (fun _ => (1 : Int32)))), (g1, .inl (cI, 4, .inl (fun _ => (1 : Int32)))), (g2, .inl (cI, 4, .inl (fun _ => (1 : Int32))))] (fun (_ : Unit) => True) (fun (_ : Unit) => some (.int (7 : Int32))) (fun (_ : Unit) => [(hg, .inr (1, [.ref g0, .ref g1, .ref g2, .int (9027 : Int32)])), (g0, .inl (cI, 4, .inl (fun _ => (1 : Int32)))), (g1, .inl (cI, 4, .inl (fun _ => (1 : Int32)))), (g2, .inl (cI, 4, .inl (fun _ => (1 : Int32))))]) := by
  refine WM.ofG cX1_nextValue 4 (some .int) (by decide +kernel) rfl (Nat.le_of_ble_eq_true rfl) ?_
  intro p e s m below meth c A hA B hr hlocks hname hK hN
  refine g_aload_n B dX1_nextValue_0 0 rfl ?_
  refine g_iload_n B dX1_nextValue_1 1 rfl ?_
  refine g_callP (g_runV (q0 := 0) (ci := 1) B hK rfl rfl (PM.met (k_weightOf l (D := D) (cI := cI) (cL := cL) (cZ := cZ) hg g0 g1 g2 (1 : Int32) b1 (by omega))) (gPp.pre (av := [.ref hg, .int (nI b1)]) (wc := [(hg, .inr (1, [.ref g0, .ref g1, .ref g2, .int (1 : Int32)])), (g0, .inl (cI, 4, .inl (fun _ => (1 : Int32)))), (g1, .inl (cI, 4, .inl (fun _ => (1 : Int32)))), (g2, .inl (cI, 4, .inl (fun _ => (1 : Int32))))]) hK hN [0, 1, 2, 3] rfl (by decide)) gX1_nextValue_X1_weightOf rfl rfl kd_X1_weightOf ⟨by decide, by decide⟩ (st := []) rfl (Nat.le_of_ble_eq_true rfl) dX1_nextValue_2 ⟨by decide, by decide⟩) (fun u hu => ?_)
  refine g_istore_n (lv' := [(0, .ref hg), (1, .int (nI b1)), (2, .int (3 : Int32))]) B dX1_nextValue_5 rfl (by decide) [1, 2, 0] rfl ?_
  refine g_iload_n B dX1_nextValue_6 2 rfl ?_
  refine g_if_ne (tgt := 12) B dX1_nextValue_7 (by decide) (fun _ => ?_) (fun c2 => absurd c2 (by decide))
  refine g_aload_n B dX1_nextValue_12 0 rfl ?_
  refine g_iload_n B dX1_nextValue_13 2 rfl ?_
  refine g_callW (w2 := (fun (_ : Unit) => [(hg, .inr (1, [.ref g0, .ref g1, .ref g2, .int (nI ((1 * 421 + 1663) % 10000))])), (g0, .inl (cI, 4, .inl (fun _ => (1 : Int32)))), (g1, .inl (cI, 4, .inl (fun _ => (1 : Int32)))), (g2, .inl (cI, 4, .inl (fun _ => (1 : Int32))))])) (g_runV (q0 := 0) (ci := 1) B hK rfl rfl (k_drawnBelow_3 l (D := D) (cI := cI) (cL := cL) (cZ := cZ) hg g0 g1 g2 1 (by omega)) (gPw.pre (av := [.ref hg, .int (3 : Int32)]) (wc := [(hg, .inr (1, [.ref g0, .ref g1, .ref g2, .int (1 : Int32)]))]) hK hN [0] rfl (by decide)) gX1_nextValue_X1_drawnBelow rfl rfl kd_X1_drawnBelow ⟨by decide, by decide⟩ (st := []) rfl (Nat.le_of_ble_eq_true rfl) dX1_nextValue_14 ⟨by decide, by decide⟩) hA (fun _ h => h) [0] [1, 2, 3] (wr := [(g0, .inl (cI, 4, .inl (fun _ => (1 : Int32)))), (g1, .inl (cI, 4, .inl (fun _ => (1 : Int32)))), (g2, .inl (cI, 4, .inl (fun _ => (1 : Int32))))]) rfl rfl (by decide) (by decide) [3, 0, 1, 2] (by decide) (fun _ => rfl) (fun u hu => ?_)
  refine g_eqw (w2 := [(hg, .inr (1, [.ref g0, .ref g1, .ref g2, .int (2084 : Int32)])), (g0, .inl (cI, 4, .inl (fun _ => (1 : Int32)))), (g1, .inl (cI, 4, .inl (fun _ => (1 : Int32)))), (g2, .inl (cI, 4, .inl (fun _ => (1 : Int32))))]) rfl ?_
  refine g_eqi (y := (2 : Int32)) rfl ?_
  refine g_istore_n (lv' := [(0, .ref hg), (1, .int (nI b1)), (2, .int (3 : Int32)), (3, .int (2 : Int32))]) B dX1_nextValue_17 rfl (by decide) [1, 2, 3, 0] rfl ?_
  refine g_iload_n B dX1_nextValue_18 3 rfl ?_
  refine g_aload_n B dX1_nextValue_19 0 rfl ?_
  refine g_get (C := RX1) (T := TX1) (N := 4) (ci := 1) B hK hin_X1_nextValue_RX1 0 rfl rfl 0 (by decide) (List.mem_of_getElem? (i := 1) rfl) rfl (v := .ref g0) rfl dX1_nextValue_20 ?_
  refine g_iload_n B dX1_nextValue_23 1 rfl ?_
  refine g_iald B hK 1 0 rfl rfl b1 rfl (by omega) (by omega) (v := (1 : Int32)) rfl dX1_nextValue_24 ?_
  refine g_icmp_ge (tgt := 34) B dX1_nextValue_25 (by decide) (fun _ => ?_) (fun c4 => absurd (by decide) c4)
  refine g_iload_n B dX1_nextValue_34 3 rfl ?_
  refine g_aload_n B dX1_nextValue_35 0 rfl ?_
  refine g_get (C := RX1) (T := TX1) (N := 4) (ci := 1) B hK hin_X1_nextValue_RX1 0 rfl rfl 0 (by decide) (List.mem_of_getElem? (i := 1) rfl) rfl (v := .ref g0) rfl dX1_nextValue_36 ?_
  refine g_iload_n B dX1_nextValue_39 1 rfl ?_
  refine g_iald B hK 1 0 rfl rfl b1 rfl (by omega) (by omega) (v := (1 : Int32)) rfl dX1_nextValue_40 ?_
  refine g_aload_n B dX1_nextValue_41 0 rfl ?_
  refine g_get (C := RX1) (T := TX1) (N := 4) (ci := 1) B hK hin_X1_nextValue_RX1 0 rfl rfl 1 (by decide) (List.mem_of_getElem? (i := 2) rfl) rfl (v := .ref g1) rfl dX1_nextValue_42 ?_
  refine g_iload_n B dX1_nextValue_45 1 rfl ?_
  refine g_iald B hK 2 0 rfl rfl b1 rfl (by omega) (by omega) (v := (1 : Int32)) rfl dX1_nextValue_46 ?_
  refine g_iadd (v := (2 : Int32)) B dX1_nextValue_47 (by decide) ?_
  refine g_icmp_ge (tgt := 59) B dX1_nextValue_48 (by decide) (fun _ => ?_) (fun c5 => absurd (by decide) c5)
  refine g_bipush (v := (7 : Int32)) B dX1_nextValue_59 (by decide) ?_
  refine g_aload_n B dX1_nextValue_61 0 rfl ?_
  refine g_iconst (v := (3 : Int32)) B dX1_nextValue_62 (by decide) ?_
  refine g_callW (w2 := (fun (_ : Unit) => [(hg, .inr (1, [.ref g0, .ref g1, .ref g2, .int (nI ((2084 * 421 + 1663) % 10000))])), (g0, .inl (cI, 4, .inl (fun _ => (1 : Int32)))), (g1, .inl (cI, 4, .inl (fun _ => (1 : Int32)))), (g2, .inl (cI, 4, .inl (fun _ => (1 : Int32))))])) (g_runV (q0 := 0) (ci := 1) B hK rfl rfl (k_drawnBelow_3 l (D := D) (cI := cI) (cL := cL) (cZ := cZ) hg g0 g1 g2 2084 (by omega)) (gPw.pre (av := [.ref hg, .int (3 : Int32)]) (wc := [(hg, .inr (1, [.ref g0, .ref g1, .ref g2, .int (2084 : Int32)]))]) hK hN [0] rfl (by decide)) gX1_nextValue_X1_drawnBelow rfl rfl kd_X1_drawnBelow ⟨by decide, by decide⟩ (st := [.int (7 : Int32)]) rfl (Nat.le_of_ble_eq_true rfl) dX1_nextValue_63 ⟨by decide, by decide⟩) hA (fun _ h => h) [0] [1, 2, 3] (wr := [(g0, .inl (cI, 4, .inl (fun _ => (1 : Int32)))), (g1, .inl (cI, 4, .inl (fun _ => (1 : Int32)))), (g2, .inl (cI, 4, .inl (fun _ => (1 : Int32))))]) rfl rfl (by decide) (by decide) [3, 0, 1, 2] (by decide) (fun _ => rfl) (fun u hu => ?_)
  refine g_eqw (w2 := [(hg, .inr (1, [.ref g0, .ref g1, .ref g2, .int (9027 : Int32)])), (g0, .inl (cI, 4, .inl (fun _ => (1 : Int32)))), (g1, .inl (cI, 4, .inl (fun _ => (1 : Int32)))), (g2, .inl (cI, 4, .inl (fun _ => (1 : Int32))))]) rfl ?_
  refine g_eqi (y := (0 : Int32)) rfl ?_
  refine g_iadd (v := (7 : Int32)) B dX1_nextValue_66 (by decide) ?_
  exact g_iret_w B hr rfl hlocks () (rfl) (trivial) [0, 1, 2, 3] (by decide) rfl dX1_nextValue_67

set_option maxHeartbeats 4000000 in
set_option maxRecDepth 100000 in
theorem k_nextValue_c1 (l : Launch) {D : va_G} {cI cL cZ : ClassId} (hg : Nat) (g0 : Nat) (g1 : Nat) (g2 : Nat) (b1 : Nat) (h1 : b1 < 4) : WM l yX1_nextValue wsX1_nextValue ({ frames := 1, cells := 0, slots := 0, locals := 21 } : Room) D (gTys cI cL cZ) [.ref hg, .int (nI b1)] [(hg, .inr (1, [.ref g0, .ref g1, .ref g2, .int (9027 : Int32)])), (g0, .inl (cI, 4, .inl (fun _ => (1 : Int32)))), (g1, .inl (cI, 4, .inl (fun _ => (1 : Int32)))), (g2, .inl (cI, 4, .inl (fun _ => (1 : Int32))))] (fun (_ : Unit) => True) (fun (_ : Unit) => some (.int (9 : Int32))) (fun (_ : Unit) => [(hg, .inr (1, [.ref g0, .ref g1, .ref g2, .int (6293 : Int32)])), (g0, .inl (cI, 4, .inl (fun _ => (1 : Int32)))), (g1, .inl (cI, 4, .inl (fun _ => (1 : Int32)))), (g2, .inl (cI, 4, .inl (fun _ => (1 : Int32))))]) := by
  refine WM.ofG cX1_nextValue 4 (some .int) (by decide +kernel) rfl (Nat.le_of_ble_eq_true rfl) ?_
  intro p e s m below meth c A hA B hr hlocks hname hK hN
  refine g_aload_n B dX1_nextValue_0 0 rfl ?_
  refine g_iload_n B dX1_nextValue_1 1 rfl ?_
  refine g_callP (g_runV (q0 := 0) (ci := 1) B hK rfl rfl (PM.met (k_weightOf l (D := D) (cI := cI) (cL := cL) (cZ := cZ) hg g0 g1 g2 (9027 : Int32) b1 (by omega))) (gPp.pre (av := [.ref hg, .int (nI b1)]) (wc := [(hg, .inr (1, [.ref g0, .ref g1, .ref g2, .int (9027 : Int32)])), (g0, .inl (cI, 4, .inl (fun _ => (1 : Int32)))), (g1, .inl (cI, 4, .inl (fun _ => (1 : Int32)))), (g2, .inl (cI, 4, .inl (fun _ => (1 : Int32))))]) hK hN [0, 1, 2, 3] rfl (by decide)) gX1_nextValue_X1_weightOf rfl rfl kd_X1_weightOf ⟨by decide, by decide⟩ (st := []) rfl (Nat.le_of_ble_eq_true rfl) dX1_nextValue_2 ⟨by decide, by decide⟩) (fun u hu => ?_)
  refine g_istore_n (lv' := [(0, .ref hg), (1, .int (nI b1)), (2, .int (3 : Int32))]) B dX1_nextValue_5 rfl (by decide) [1, 2, 0] rfl ?_
  refine g_iload_n B dX1_nextValue_6 2 rfl ?_
  refine g_if_ne (tgt := 12) B dX1_nextValue_7 (by decide) (fun _ => ?_) (fun c2 => absurd c2 (by decide))
  refine g_aload_n B dX1_nextValue_12 0 rfl ?_
  refine g_iload_n B dX1_nextValue_13 2 rfl ?_
  refine g_callW (w2 := (fun (_ : Unit) => [(hg, .inr (1, [.ref g0, .ref g1, .ref g2, .int (nI ((9027 * 421 + 1663) % 10000))])), (g0, .inl (cI, 4, .inl (fun _ => (1 : Int32)))), (g1, .inl (cI, 4, .inl (fun _ => (1 : Int32)))), (g2, .inl (cI, 4, .inl (fun _ => (1 : Int32))))])) (g_runV (q0 := 0) (ci := 1) B hK rfl rfl (k_drawnBelow_3 l (D := D) (cI := cI) (cL := cL) (cZ := cZ) hg g0 g1 g2 9027 (by omega)) (gPw.pre (av := [.ref hg, .int (3 : Int32)]) (wc := [(hg, .inr (1, [.ref g0, .ref g1, .ref g2, .int (9027 : Int32)]))]) hK hN [0] rfl (by decide)) gX1_nextValue_X1_drawnBelow rfl rfl kd_X1_drawnBelow ⟨by decide, by decide⟩ (st := []) rfl (Nat.le_of_ble_eq_true rfl) dX1_nextValue_14 ⟨by decide, by decide⟩) hA (fun _ h => h) [0] [1, 2, 3] (wr := [(g0, .inl (cI, 4, .inl (fun _ => (1 : Int32)))), (g1, .inl (cI, 4, .inl (fun _ => (1 : Int32)))), (g2, .inl (cI, 4, .inl (fun _ => (1 : Int32))))]) rfl rfl (by decide) (by decide) [3, 0, 1, 2] (by decide) (fun _ => rfl) (fun u hu => ?_)
  refine g_eqw (w2 := [(hg, .inr (1, [.ref g0, .ref g1, .ref g2, .int (2030 : Int32)])), (g0, .inl (cI, 4, .inl (fun _ => (1 : Int32)))), (g1, .inl (cI, 4, .inl (fun _ => (1 : Int32)))), (g2, .inl (cI, 4, .inl (fun _ => (1 : Int32))))]) rfl ?_
  refine g_eqi (y := (2 : Int32)) rfl ?_
  refine g_istore_n (lv' := [(0, .ref hg), (1, .int (nI b1)), (2, .int (3 : Int32)), (3, .int (2 : Int32))]) B dX1_nextValue_17 rfl (by decide) [1, 2, 3, 0] rfl ?_
  refine g_iload_n B dX1_nextValue_18 3 rfl ?_
  refine g_aload_n B dX1_nextValue_19 0 rfl ?_
  refine g_get (C := RX1) (T := TX1) (N := 4) (ci := 1) B hK hin_X1_nextValue_RX1 0 rfl rfl 0 (by decide) (List.mem_of_getElem? (i := 1) rfl) rfl (v := .ref g0) rfl dX1_nextValue_20 ?_
  refine g_iload_n B dX1_nextValue_23 1 rfl ?_
  refine g_iald B hK 1 0 rfl rfl b1 rfl (by omega) (by omega) (v := (1 : Int32)) rfl dX1_nextValue_24 ?_
  refine g_icmp_ge (tgt := 34) B dX1_nextValue_25 (by decide) (fun _ => ?_) (fun c4 => absurd (by decide) c4)
  refine g_iload_n B dX1_nextValue_34 3 rfl ?_
  refine g_aload_n B dX1_nextValue_35 0 rfl ?_
  refine g_get (C := RX1) (T := TX1) (N := 4) (ci := 1) B hK hin_X1_nextValue_RX1 0 rfl rfl 0 (by decide) (List.mem_of_getElem? (i := 1) rfl) rfl (v := .ref g0) rfl dX1_nextValue_36 ?_
  refine g_iload_n B dX1_nextValue_39 1 rfl ?_
  refine g_iald B hK 1 0 rfl rfl b1 rfl (by omega) (by omega) (v := (1 : Int32)) rfl dX1_nextValue_40 ?_
  refine g_aload_n B dX1_nextValue_41 0 rfl ?_
  refine g_get (C := RX1) (T := TX1) (N := 4) (ci := 1) B hK hin_X1_nextValue_RX1 0 rfl rfl 1 (by decide) (List.mem_of_getElem? (i := 2) rfl) rfl (v := .ref g1) rfl dX1_nextValue_42 ?_
  refine g_iload_n B dX1_nextValue_45 1 rfl ?_
  refine g_iald B hK 2 0 rfl rfl b1 rfl (by omega) (by omega) (v := (1 : Int32)) rfl dX1_nextValue_46 ?_
  refine g_iadd (v := (2 : Int32)) B dX1_nextValue_47 (by decide) ?_
  refine g_icmp_ge (tgt := 59) B dX1_nextValue_48 (by decide) (fun _ => ?_) (fun c5 => absurd (by decide) c5)
  refine g_bipush (v := (7 : Int32)) B dX1_nextValue_59 (by decide) ?_
  refine g_aload_n B dX1_nextValue_61 0 rfl ?_
  refine g_iconst (v := (3 : Int32)) B dX1_nextValue_62 (by decide) ?_
  refine g_callW (w2 := (fun (_ : Unit) => [(hg, .inr (1, [.ref g0, .ref g1, .ref g2, .int (nI ((2030 * 421 + 1663) % 10000))])), (g0, .inl (cI, 4, .inl (fun _ => (1 : Int32)))), (g1, .inl (cI, 4, .inl (fun _ => (1 : Int32)))), (g2, .inl (cI, 4, .inl (fun _ => (1 : Int32))))])) (g_runV (q0 := 0) (ci := 1) B hK rfl rfl (k_drawnBelow_3 l (D := D) (cI := cI) (cL := cL) (cZ := cZ) hg g0 g1 g2 2030 (by omega)) (gPw.pre (av := [.ref hg, .int (3 : Int32)]) (wc := [(hg, .inr (1, [.ref g0, .ref g1, .ref g2, .int (2030 : Int32)]))]) hK hN [0] rfl (by decide)) gX1_nextValue_X1_drawnBelow rfl rfl kd_X1_drawnBelow ⟨by decide, by decide⟩ (st := [.int (7 : Int32)]) rfl (Nat.le_of_ble_eq_true rfl) dX1_nextValue_63 ⟨by decide, by decide⟩) hA (fun _ h => h) [0] [1, 2, 3] (wr := [(g0, .inl (cI, 4, .inl (fun _ => (1 : Int32)))), (g1, .inl (cI, 4, .inl (fun _ => (1 : Int32)))), (g2, .inl (cI, 4, .inl (fun _ => (1 : Int32))))]) rfl rfl (by decide) (by decide) [3, 0, 1, 2] (by decide) (fun _ => rfl) (fun u hu => ?_)
  refine g_eqw (w2 := [(hg, .inr (1, [.ref g0, .ref g1, .ref g2, .int (6293 : Int32)])), (g0, .inl (cI, 4, .inl (fun _ => (1 : Int32)))), (g1, .inl (cI, 4, .inl (fun _ => (1 : Int32)))), (g2, .inl (cI, 4, .inl (fun _ => (1 : Int32))))]) rfl ?_
  refine g_eqi (y := (2 : Int32)) rfl ?_
  refine g_iadd (v := (9 : Int32)) B dX1_nextValue_66 (by decide) ?_
  exact g_iret_w B hr rfl hlocks () (rfl) (trivial) [0, 1, 2, 3] (by decide) rfl dX1_nextValue_67

set_option maxHeartbeats 4000000 in
set_option maxRecDepth 100000 in
theorem k_nextValue_c2 (l : Launch) {D : va_G} {cI cL cZ : ClassId} (hg : Nat) (g0 : Nat) (g1 : Nat) (g2 : Nat) (b1 : Nat) (h1 : b1 < 4) : WM l yX1_nextValue wsX1_nextValue ({ frames := 1, cells := 0, slots := 0, locals := 21 } : Room) D (gTys cI cL cZ) [.ref hg, .int (nI b1)] [(hg, .inr (1, [.ref g0, .ref g1, .ref g2, .int (6293 : Int32)])), (g0, .inl (cI, 4, .inl (fun _ => (1 : Int32)))), (g1, .inl (cI, 4, .inl (fun _ => (1 : Int32)))), (g2, .inl (cI, 4, .inl (fun _ => (1 : Int32))))] (fun (_ : Unit) => True) (fun (_ : Unit) => some (.int (4 : Int32))) (fun (_ : Unit) => [(hg, .inr (1, [.ref g0, .ref g1, .ref g2, .int (9399 : Int32)])), (g0, .inl (cI, 4, .inl (fun _ => (1 : Int32)))), (g1, .inl (cI, 4, .inl (fun _ => (1 : Int32)))), (g2, .inl (cI, 4, .inl (fun _ => (1 : Int32))))]) := by
  refine WM.ofG cX1_nextValue 4 (some .int) (by decide +kernel) rfl (Nat.le_of_ble_eq_true rfl) ?_
  intro p e s m below meth c A hA B hr hlocks hname hK hN
  refine g_aload_n B dX1_nextValue_0 0 rfl ?_
  refine g_iload_n B dX1_nextValue_1 1 rfl ?_
  refine g_callP (g_runV (q0 := 0) (ci := 1) B hK rfl rfl (PM.met (k_weightOf l (D := D) (cI := cI) (cL := cL) (cZ := cZ) hg g0 g1 g2 (6293 : Int32) b1 (by omega))) (gPp.pre (av := [.ref hg, .int (nI b1)]) (wc := [(hg, .inr (1, [.ref g0, .ref g1, .ref g2, .int (6293 : Int32)])), (g0, .inl (cI, 4, .inl (fun _ => (1 : Int32)))), (g1, .inl (cI, 4, .inl (fun _ => (1 : Int32)))), (g2, .inl (cI, 4, .inl (fun _ => (1 : Int32))))]) hK hN [0, 1, 2, 3] rfl (by decide)) gX1_nextValue_X1_weightOf rfl rfl kd_X1_weightOf ⟨by decide, by decide⟩ (st := []) rfl (Nat.le_of_ble_eq_true rfl) dX1_nextValue_2 ⟨by decide, by decide⟩) (fun u hu => ?_)
  refine g_istore_n (lv' := [(0, .ref hg), (1, .int (nI b1)), (2, .int (3 : Int32))]) B dX1_nextValue_5 rfl (by decide) [1, 2, 0] rfl ?_
  refine g_iload_n B dX1_nextValue_6 2 rfl ?_
  refine g_if_ne (tgt := 12) B dX1_nextValue_7 (by decide) (fun _ => ?_) (fun c2 => absurd c2 (by decide))
  refine g_aload_n B dX1_nextValue_12 0 rfl ?_
  refine g_iload_n B dX1_nextValue_13 2 rfl ?_
  refine g_callW (w2 := (fun (_ : Unit) => [(hg, .inr (1, [.ref g0, .ref g1, .ref g2, .int (nI ((6293 * 421 + 1663) % 10000))])), (g0, .inl (cI, 4, .inl (fun _ => (1 : Int32)))), (g1, .inl (cI, 4, .inl (fun _ => (1 : Int32)))), (g2, .inl (cI, 4, .inl (fun _ => (1 : Int32))))])) (g_runV (q0 := 0) (ci := 1) B hK rfl rfl (k_drawnBelow_3 l (D := D) (cI := cI) (cL := cL) (cZ := cZ) hg g0 g1 g2 6293 (by omega)) (gPw.pre (av := [.ref hg, .int (3 : Int32)]) (wc := [(hg, .inr (1, [.ref g0, .ref g1, .ref g2, .int (6293 : Int32)]))]) hK hN [0] rfl (by decide)) gX1_nextValue_X1_drawnBelow rfl rfl kd_X1_drawnBelow ⟨by decide, by decide⟩ (st := []) rfl (Nat.le_of_ble_eq_true rfl) dX1_nextValue_14 ⟨by decide, by decide⟩) hA (fun _ h => h) [0] [1, 2, 3] (wr := [(g0, .inl (cI, 4, .inl (fun _ => (1 : Int32)))), (g1, .inl (cI, 4, .inl (fun _ => (1 : Int32)))), (g2, .inl (cI, 4, .inl (fun _ => (1 : Int32))))]) rfl rfl (by decide) (by decide) [3, 0, 1, 2] (by decide) (fun _ => rfl) (fun u hu => ?_)
  refine g_eqw (w2 := [(hg, .inr (1, [.ref g0, .ref g1, .ref g2, .int (1016 : Int32)])), (g0, .inl (cI, 4, .inl (fun _ => (1 : Int32)))), (g1, .inl (cI, 4, .inl (fun _ => (1 : Int32)))), (g2, .inl (cI, 4, .inl (fun _ => (1 : Int32))))]) rfl ?_
  refine g_eqi (y := (1 : Int32)) rfl ?_
  refine g_istore_n (lv' := [(0, .ref hg), (1, .int (nI b1)), (2, .int (3 : Int32)), (3, .int (1 : Int32))]) B dX1_nextValue_17 rfl (by decide) [1, 2, 3, 0] rfl ?_
  refine g_iload_n B dX1_nextValue_18 3 rfl ?_
  refine g_aload_n B dX1_nextValue_19 0 rfl ?_
  refine g_get (C := RX1) (T := TX1) (N := 4) (ci := 1) B hK hin_X1_nextValue_RX1 0 rfl rfl 0 (by decide) (List.mem_of_getElem? (i := 1) rfl) rfl (v := .ref g0) rfl dX1_nextValue_20 ?_
  refine g_iload_n B dX1_nextValue_23 1 rfl ?_
  refine g_iald B hK 1 0 rfl rfl b1 rfl (by omega) (by omega) (v := (1 : Int32)) rfl dX1_nextValue_24 ?_
  refine g_icmp_ge (tgt := 34) B dX1_nextValue_25 (by decide) (fun _ => ?_) (fun c4 => absurd (by decide) c4)
  refine g_iload_n B dX1_nextValue_34 3 rfl ?_
  refine g_aload_n B dX1_nextValue_35 0 rfl ?_
  refine g_get (C := RX1) (T := TX1) (N := 4) (ci := 1) B hK hin_X1_nextValue_RX1 0 rfl rfl 0 (by decide) (List.mem_of_getElem? (i := 1) rfl) rfl (v := .ref g0) rfl dX1_nextValue_36 ?_
  refine g_iload_n B dX1_nextValue_39 1 rfl ?_
  refine g_iald B hK 1 0 rfl rfl b1 rfl (by omega) (by omega) (v := (1 : Int32)) rfl dX1_nextValue_40 ?_
  refine g_aload_n B dX1_nextValue_41 0 rfl ?_
  refine g_get (C := RX1) (T := TX1) (N := 4) (ci := 1) B hK hin_X1_nextValue_RX1 0 rfl rfl 1 (by decide) (List.mem_of_getElem? (i := 2) rfl) rfl (v := .ref g1) rfl dX1_nextValue_42 ?_
  refine g_iload_n B dX1_nextValue_45 1 rfl ?_
  refine g_iald B hK 2 0 rfl rfl b1 rfl (by omega) (by omega) (v := (1 : Int32)) rfl dX1_nextValue_46 ?_
  refine g_iadd (v := (2 : Int32)) B dX1_nextValue_47 (by decide) ?_
  refine g_icmp_ge (tgt := 59) B dX1_nextValue_48 (by decide) (fun c5 => absurd c5 (by decide)) (fun _ => ?_)
  refine g_iconst (v := (3 : Int32)) B dX1_nextValue_51 (by decide) ?_
  refine g_aload_n B dX1_nextValue_52 0 rfl ?_
  refine g_iconst (v := (4 : Int32)) B dX1_nextValue_53 (by decide) ?_
  refine g_callW (w2 := (fun (_ : Unit) => [(hg, .inr (1, [.ref g0, .ref g1, .ref g2, .int (nI ((1016 * 421 + 1663) % 10000))])), (g0, .inl (cI, 4, .inl (fun _ => (1 : Int32)))), (g1, .inl (cI, 4, .inl (fun _ => (1 : Int32)))), (g2, .inl (cI, 4, .inl (fun _ => (1 : Int32))))])) (g_runV (q0 := 0) (ci := 1) B hK rfl rfl (k_drawnBelow_4 l (D := D) (cI := cI) (cL := cL) (cZ := cZ) hg g0 g1 g2 1016 (by omega)) (gPw.pre (av := [.ref hg, .int (4 : Int32)]) (wc := [(hg, .inr (1, [.ref g0, .ref g1, .ref g2, .int (1016 : Int32)]))]) hK hN [0] rfl (by decide)) gX1_nextValue_X1_drawnBelow rfl rfl kd_X1_drawnBelow ⟨by decide, by decide⟩ (st := [.int (3 : Int32)]) rfl (Nat.le_of_ble_eq_true rfl) dX1_nextValue_54 ⟨by decide, by decide⟩) hA (fun _ h => h) [0] [1, 2, 3] (wr := [(g0, .inl (cI, 4, .inl (fun _ => (1 : Int32)))), (g1, .inl (cI, 4, .inl (fun _ => (1 : Int32)))), (g2, .inl (cI, 4, .inl (fun _ => (1 : Int32))))]) rfl rfl (by decide) (by decide) [3, 0, 1, 2] (by decide) (fun _ => rfl) (fun u hu => ?_)
  refine g_eqw (w2 := [(hg, .inr (1, [.ref g0, .ref g1, .ref g2, .int (9399 : Int32)])), (g0, .inl (cI, 4, .inl (fun _ => (1 : Int32)))), (g1, .inl (cI, 4, .inl (fun _ => (1 : Int32)))), (g2, .inl (cI, 4, .inl (fun _ => (1 : Int32))))]) rfl ?_
  refine g_eqi (y := (1 : Int32)) rfl ?_
  refine g_iadd (v := (4 : Int32)) B dX1_nextValue_57 (by decide) ?_
  exact g_iret_w B hr rfl hlocks () (rfl) (trivial) [0, 1, 2, 3] (by decide) rfl dX1_nextValue_58

set_option maxHeartbeats 4000000 in
set_option maxRecDepth 100000 in
theorem k_nextValue_c3 (l : Launch) {D : va_G} {cI cL cZ : ClassId} (hg : Nat) (g0 : Nat) (g1 : Nat) (g2 : Nat) (b1 : Nat) (h1 : b1 < 4) : WM l yX1_nextValue wsX1_nextValue ({ frames := 1, cells := 0, slots := 0, locals := 21 } : Room) D (gTys cI cL cZ) [.ref hg, .int (nI b1)] [(hg, .inr (1, [.ref g0, .ref g1, .ref g2, .int (9399 : Int32)])), (g0, .inl (cI, 4, .inl (fun _ => (1 : Int32)))), (g1, .inl (cI, 4, .inl (fun _ => (1 : Int32)))), (g2, .inl (cI, 4, .inl (fun _ => (1 : Int32))))] (fun (_ : Unit) => True) (fun (_ : Unit) => some (.int (7 : Int32))) (fun (_ : Unit) => [(hg, .inr (1, [.ref g0, .ref g1, .ref g2, .int (9945 : Int32)])), (g0, .inl (cI, 4, .inl (fun _ => (1 : Int32)))), (g1, .inl (cI, 4, .inl (fun _ => (1 : Int32)))), (g2, .inl (cI, 4, .inl (fun _ => (1 : Int32))))]) := by
  refine WM.ofG cX1_nextValue 4 (some .int) (by decide +kernel) rfl (Nat.le_of_ble_eq_true rfl) ?_
  intro p e s m below meth c A hA B hr hlocks hname hK hN
  refine g_aload_n B dX1_nextValue_0 0 rfl ?_
  refine g_iload_n B dX1_nextValue_1 1 rfl ?_
  refine g_callP (g_runV (q0 := 0) (ci := 1) B hK rfl rfl (PM.met (k_weightOf l (D := D) (cI := cI) (cL := cL) (cZ := cZ) hg g0 g1 g2 (9399 : Int32) b1 (by omega))) (gPp.pre (av := [.ref hg, .int (nI b1)]) (wc := [(hg, .inr (1, [.ref g0, .ref g1, .ref g2, .int (9399 : Int32)])), (g0, .inl (cI, 4, .inl (fun _ => (1 : Int32)))), (g1, .inl (cI, 4, .inl (fun _ => (1 : Int32)))), (g2, .inl (cI, 4, .inl (fun _ => (1 : Int32))))]) hK hN [0, 1, 2, 3] rfl (by decide)) gX1_nextValue_X1_weightOf rfl rfl kd_X1_weightOf ⟨by decide, by decide⟩ (st := []) rfl (Nat.le_of_ble_eq_true rfl) dX1_nextValue_2 ⟨by decide, by decide⟩) (fun u hu => ?_)
  refine g_istore_n (lv' := [(0, .ref hg), (1, .int (nI b1)), (2, .int (3 : Int32))]) B dX1_nextValue_5 rfl (by decide) [1, 2, 0] rfl ?_
  refine g_iload_n B dX1_nextValue_6 2 rfl ?_
  refine g_if_ne (tgt := 12) B dX1_nextValue_7 (by decide) (fun _ => ?_) (fun c2 => absurd c2 (by decide))
  refine g_aload_n B dX1_nextValue_12 0 rfl ?_
  refine g_iload_n B dX1_nextValue_13 2 rfl ?_
  refine g_callW (w2 := (fun (_ : Unit) => [(hg, .inr (1, [.ref g0, .ref g1, .ref g2, .int (nI ((9399 * 421 + 1663) % 10000))])), (g0, .inl (cI, 4, .inl (fun _ => (1 : Int32)))), (g1, .inl (cI, 4, .inl (fun _ => (1 : Int32)))), (g2, .inl (cI, 4, .inl (fun _ => (1 : Int32))))])) (g_runV (q0 := 0) (ci := 1) B hK rfl rfl (k_drawnBelow_3 l (D := D) (cI := cI) (cL := cL) (cZ := cZ) hg g0 g1 g2 9399 (by omega)) (gPw.pre (av := [.ref hg, .int (3 : Int32)]) (wc := [(hg, .inr (1, [.ref g0, .ref g1, .ref g2, .int (9399 : Int32)]))]) hK hN [0] rfl (by decide)) gX1_nextValue_X1_drawnBelow rfl rfl kd_X1_drawnBelow ⟨by decide, by decide⟩ (st := []) rfl (Nat.le_of_ble_eq_true rfl) dX1_nextValue_14 ⟨by decide, by decide⟩) hA (fun _ h => h) [0] [1, 2, 3] (wr := [(g0, .inl (cI, 4, .inl (fun _ => (1 : Int32)))), (g1, .inl (cI, 4, .inl (fun _ => (1 : Int32)))), (g2, .inl (cI, 4, .inl (fun _ => (1 : Int32))))]) rfl rfl (by decide) (by decide) [3, 0, 1, 2] (by decide) (fun _ => rfl) (fun u hu => ?_)
  refine g_eqw (w2 := [(hg, .inr (1, [.ref g0, .ref g1, .ref g2, .int (8642 : Int32)])), (g0, .inl (cI, 4, .inl (fun _ => (1 : Int32)))), (g1, .inl (cI, 4, .inl (fun _ => (1 : Int32)))), (g2, .inl (cI, 4, .inl (fun _ => (1 : Int32))))]) rfl ?_
  refine g_eqi (y := (2 : Int32)) rfl ?_
  refine g_istore_n (lv' := [(0, .ref hg), (1, .int (nI b1)), (2, .int (3 : Int32)), (3, .int (2 : Int32))]) B dX1_nextValue_17 rfl (by decide) [1, 2, 3, 0] rfl ?_
  refine g_iload_n B dX1_nextValue_18 3 rfl ?_
  refine g_aload_n B dX1_nextValue_19 0 rfl ?_
  refine g_get (C := RX1) (T := TX1) (N := 4) (ci := 1) B hK hin_X1_nextValue_RX1 0 rfl rfl 0 (by decide) (List.mem_of_getElem? (i := 1) rfl) rfl (v := .ref g0) rfl dX1_nextValue_20 ?_
  refine g_iload_n B dX1_nextValue_23 1 rfl ?_
  refine g_iald B hK 1 0 rfl rfl b1 rfl (by omega) (by omega) (v := (1 : Int32)) rfl dX1_nextValue_24 ?_
  refine g_icmp_ge (tgt := 34) B dX1_nextValue_25 (by decide) (fun _ => ?_) (fun c4 => absurd (by decide) c4)
  refine g_iload_n B dX1_nextValue_34 3 rfl ?_
  refine g_aload_n B dX1_nextValue_35 0 rfl ?_
  refine g_get (C := RX1) (T := TX1) (N := 4) (ci := 1) B hK hin_X1_nextValue_RX1 0 rfl rfl 0 (by decide) (List.mem_of_getElem? (i := 1) rfl) rfl (v := .ref g0) rfl dX1_nextValue_36 ?_
  refine g_iload_n B dX1_nextValue_39 1 rfl ?_
  refine g_iald B hK 1 0 rfl rfl b1 rfl (by omega) (by omega) (v := (1 : Int32)) rfl dX1_nextValue_40 ?_
  refine g_aload_n B dX1_nextValue_41 0 rfl ?_
  refine g_get (C := RX1) (T := TX1) (N := 4) (ci := 1) B hK hin_X1_nextValue_RX1 0 rfl rfl 1 (by decide) (List.mem_of_getElem? (i := 2) rfl) rfl (v := .ref g1) rfl dX1_nextValue_42 ?_
  refine g_iload_n B dX1_nextValue_45 1 rfl ?_
  refine g_iald B hK 2 0 rfl rfl b1 rfl (by omega) (by omega) (v := (1 : Int32)) rfl dX1_nextValue_46 ?_
  refine g_iadd (v := (2 : Int32)) B dX1_nextValue_47 (by decide) ?_
  refine g_icmp_ge (tgt := 59) B dX1_nextValue_48 (by decide) (fun _ => ?_) (fun c5 => absurd (by decide) c5)
  refine g_bipush (v := (7 : Int32)) B dX1_nextValue_59 (by decide) ?_
  refine g_aload_n B dX1_nextValue_61 0 rfl ?_
  refine g_iconst (v := (3 : Int32)) B dX1_nextValue_62 (by decide) ?_
  refine g_callW (w2 := (fun (_ : Unit) => [(hg, .inr (1, [.ref g0, .ref g1, .ref g2, .int (nI ((8642 * 421 + 1663) % 10000))])), (g0, .inl (cI, 4, .inl (fun _ => (1 : Int32)))), (g1, .inl (cI, 4, .inl (fun _ => (1 : Int32)))), (g2, .inl (cI, 4, .inl (fun _ => (1 : Int32))))])) (g_runV (q0 := 0) (ci := 1) B hK rfl rfl (k_drawnBelow_3 l (D := D) (cI := cI) (cL := cL) (cZ := cZ) hg g0 g1 g2 8642 (by omega)) (gPw.pre (av := [.ref hg, .int (3 : Int32)]) (wc := [(hg, .inr (1, [.ref g0, .ref g1, .ref g2, .int (8642 : Int32)]))]) hK hN [0] rfl (by decide)) gX1_nextValue_X1_drawnBelow rfl rfl kd_X1_drawnBelow ⟨by decide, by decide⟩ (st := [.int (7 : Int32)]) rfl (Nat.le_of_ble_eq_true rfl) dX1_nextValue_63 ⟨by decide, by decide⟩) hA (fun _ h => h) [0] [1, 2, 3] (wr := [(g0, .inl (cI, 4, .inl (fun _ => (1 : Int32)))), (g1, .inl (cI, 4, .inl (fun _ => (1 : Int32)))), (g2, .inl (cI, 4, .inl (fun _ => (1 : Int32))))]) rfl rfl (by decide) (by decide) [3, 0, 1, 2] (by decide) (fun _ => rfl) (fun u hu => ?_)
  refine g_eqw (w2 := [(hg, .inr (1, [.ref g0, .ref g1, .ref g2, .int (9945 : Int32)])), (g0, .inl (cI, 4, .inl (fun _ => (1 : Int32)))), (g1, .inl (cI, 4, .inl (fun _ => (1 : Int32)))), (g2, .inl (cI, 4, .inl (fun _ => (1 : Int32))))]) rfl ?_
  refine g_eqi (y := (0 : Int32)) rfl ?_
  refine g_iadd (v := (7 : Int32)) B dX1_nextValue_66 (by decide) ?_
  exact g_iret_w B hr rfl hlocks () (rfl) (trivial) [0, 1, 2, 3] (by decide) rfl dX1_nextValue_67

set_option maxHeartbeats 4000000 in
set_option maxRecDepth 100000 in
theorem k_nextValue_n (l : Launch) {D : va_G} {cI cL cZ : ClassId} (hg : Nat) (g0 : Nat) (g1 : Nat) (g2 : Nat) (sd : Nat) (b1 : Nat) (hs : sd < 10000) (h1 : b1 < 4) : WM l yX1_nextValue wsX1_nextValue ({ frames := 1, cells := 0, slots := 0, locals := 21 } : Room) D (gTys cI cL cZ) [.ref hg, .int (nI b1)] [(hg, .inr (1, [.ref g0, .ref g1, .ref g2, .int (nI sd)])), (g0, .inl (cI, 4, .inl (fun _ => (1 : Int32)))), (g1, .inl (cI, 4, .inl (fun _ => (1 : Int32)))), (g2, .inl (cI, 4, .inl (fun _ => (1 : Int32))))] (fun (q : Nat × Nat) => q.1 < 10 ∧ q.2 < 10000) (fun (q : Nat × Nat) => some (.int (nI q.1))) (fun (q : Nat × Nat) => [(hg, .inr (1, [.ref g0, .ref g1, .ref g2, .int (nI q.2)])), (g0, .inl (cI, 4, .inl (fun _ => (1 : Int32)))), (g1, .inl (cI, 4, .inl (fun _ => (1 : Int32)))), (g2, .inl (cI, 4, .inl (fun _ => (1 : Int32))))]) := by
  refine WM.ofG cX1_nextValue 4 (some .int) (by decide +kernel) rfl (Nat.le_of_ble_eq_true rfl) ?_
  intro p e s m below meth c A hA B hr hlocks hname hK hN
  refine g_aload_n B dX1_nextValue_0 0 rfl ?_
  refine g_iload_n B dX1_nextValue_1 1 rfl ?_
  refine g_callP (g_runV (q0 := 0) (ci := 1) B hK rfl rfl (PM.met (k_weightOf l (D := D) (cI := cI) (cL := cL) (cZ := cZ) hg g0 g1 g2 (nI sd) b1 (by omega))) (gPp.pre (av := [.ref hg, .int (nI b1)]) (wc := [(hg, .inr (1, [.ref g0, .ref g1, .ref g2, .int (nI sd)])), (g0, .inl (cI, 4, .inl (fun _ => (1 : Int32)))), (g1, .inl (cI, 4, .inl (fun _ => (1 : Int32)))), (g2, .inl (cI, 4, .inl (fun _ => (1 : Int32))))]) hK hN [0, 1, 2, 3] rfl (by decide)) gX1_nextValue_X1_weightOf rfl rfl kd_X1_weightOf ⟨by decide, by decide⟩ (st := []) rfl (Nat.le_of_ble_eq_true rfl) dX1_nextValue_2 ⟨by decide, by decide⟩) (fun u hu => ?_)
  refine g_istore_n (lv' := [(0, .ref hg), (1, .int (nI b1)), (2, .int (3 : Int32))]) B dX1_nextValue_5 rfl (by decide) [1, 2, 0] rfl ?_
  refine g_iload_n B dX1_nextValue_6 2 rfl ?_
  refine g_if_ne (tgt := 12) B dX1_nextValue_7 (by decide) (fun _ => ?_) (fun c2 => absurd c2 (by decide))
  refine g_aload_n B dX1_nextValue_12 0 rfl ?_
  refine g_iload_n B dX1_nextValue_13 2 rfl ?_
  refine g_callW (w2 := (fun (_ : Unit) => [(hg, .inr (1, [.ref g0, .ref g1, .ref g2, .int (nI ((sd * 421 + 1663) % 10000))])), (g0, .inl (cI, 4, .inl (fun _ => (1 : Int32)))), (g1, .inl (cI, 4, .inl (fun _ => (1 : Int32)))), (g2, .inl (cI, 4, .inl (fun _ => (1 : Int32))))])) (g_runV (q0 := 0) (ci := 1) B hK rfl rfl (k_drawnBelow_3 l (D := D) (cI := cI) (cL := cL) (cZ := cZ) hg g0 g1 g2 sd (by omega)) (gPw.pre (av := [.ref hg, .int (3 : Int32)]) (wc := [(hg, .inr (1, [.ref g0, .ref g1, .ref g2, .int (nI sd)]))]) hK hN [0] rfl (by decide)) gX1_nextValue_X1_drawnBelow rfl rfl kd_X1_drawnBelow ⟨by decide, by decide⟩ (st := []) rfl (Nat.le_of_ble_eq_true rfl) dX1_nextValue_14 ⟨by decide, by decide⟩) hA (fun _ h => h) [0] [1, 2, 3] (wr := [(g0, .inl (cI, 4, .inl (fun _ => (1 : Int32)))), (g1, .inl (cI, 4, .inl (fun _ => (1 : Int32)))), (g2, .inl (cI, 4, .inl (fun _ => (1 : Int32))))]) rfl rfl (by decide) (by decide) [3, 0, 1, 2] (by decide) (fun _ => rfl) (fun u hu => ?_)
  refine g_istore_n (lv' := [(0, .ref hg), (1, .int (nI b1)), (2, .int (3 : Int32)), (3, .int (nI ((sd * 421 + 1663) % 10000 / 100 % 3)))]) B dX1_nextValue_17 rfl (by decide) [1, 2, 3, 0] rfl ?_
  refine g_iload_n B dX1_nextValue_18 3 rfl ?_
  refine g_aload_n B dX1_nextValue_19 0 rfl ?_
  refine g_get (C := RX1) (T := TX1) (N := 4) (ci := 1) B hK hin_X1_nextValue_RX1 0 rfl rfl 0 (by decide) (List.mem_of_getElem? (i := 1) rfl) rfl (v := .ref g0) rfl dX1_nextValue_20 ?_
  refine g_iload_n B dX1_nextValue_23 1 rfl ?_
  refine g_iald B hK 1 0 rfl rfl b1 rfl (by omega) (by omega) (v := (1 : Int32)) rfl dX1_nextValue_24 ?_
  refine g_ncmp_ge (tgt := 34) B ((sd * 421 + 1663) % 10000 / 100 % 3) 1 rfl rfl (by omega) (by omega) dX1_nextValue_25 (by decide) (fun c4 => ?_) (fun c4 => ?_)
  · refine g_iload_n B dX1_nextValue_34 3 rfl ?_
    refine g_aload_n B dX1_nextValue_35 0 rfl ?_
    refine g_get (C := RX1) (T := TX1) (N := 4) (ci := 1) B hK hin_X1_nextValue_RX1 0 rfl rfl 0 (by decide) (List.mem_of_getElem? (i := 1) rfl) rfl (v := .ref g0) rfl dX1_nextValue_36 ?_
    refine g_iload_n B dX1_nextValue_39 1 rfl ?_
    refine g_iald B hK 1 0 rfl rfl b1 rfl (by omega) (by omega) (v := (1 : Int32)) rfl dX1_nextValue_40 ?_
    refine g_aload_n B dX1_nextValue_41 0 rfl ?_
    refine g_get (C := RX1) (T := TX1) (N := 4) (ci := 1) B hK hin_X1_nextValue_RX1 0 rfl rfl 1 (by decide) (List.mem_of_getElem? (i := 2) rfl) rfl (v := .ref g1) rfl dX1_nextValue_42 ?_
    refine g_iload_n B dX1_nextValue_45 1 rfl ?_
    refine g_iald B hK 2 0 rfl rfl b1 rfl (by omega) (by omega) (v := (1 : Int32)) rfl dX1_nextValue_46 ?_
    refine g_iadd (v := (2 : Int32)) B dX1_nextValue_47 (by decide) ?_
    refine g_ncmp_ge (tgt := 59) B ((sd * 421 + 1663) % 10000 / 100 % 3) 2 rfl rfl (by omega) (by omega) dX1_nextValue_48 (by decide) (fun c5 => ?_) (fun c5 => ?_)
    · refine g_bipush (v := (7 : Int32)) B dX1_nextValue_59 (by decide) ?_
      refine g_aload_n B dX1_nextValue_61 0 rfl ?_
      refine g_iconst (v := (3 : Int32)) B dX1_nextValue_62 (by decide) ?_
      refine g_callW (w2 := (fun (_ : Unit) => [(hg, .inr (1, [.ref g0, .ref g1, .ref g2, .int (nI ((((sd * 421 + 1663) % 10000) * 421 + 1663) % 10000))])), (g0, .inl (cI, 4, .inl (fun _ => (1 : Int32)))), (g1, .inl (cI, 4, .inl (fun _ => (1 : Int32)))), (g2, .inl (cI, 4, .inl (fun _ => (1 : Int32))))])) (g_runV (q0 := 0) (ci := 1) B hK rfl rfl (k_drawnBelow_3 l (D := D) (cI := cI) (cL := cL) (cZ := cZ) hg g0 g1 g2 ((sd * 421 + 1663) % 10000) (by omega)) (gPw.pre (av := [.ref hg, .int (3 : Int32)]) (wc := [(hg, .inr (1, [.ref g0, .ref g1, .ref g2, .int (nI ((sd * 421 + 1663) % 10000))]))]) hK hN [0] rfl (by decide)) gX1_nextValue_X1_drawnBelow rfl rfl kd_X1_drawnBelow ⟨by decide, by decide⟩ (st := [.int (7 : Int32)]) rfl (Nat.le_of_ble_eq_true rfl) dX1_nextValue_63 ⟨by decide, by decide⟩) hA (fun _ h => h) [0] [1, 2, 3] (wr := [(g0, .inl (cI, 4, .inl (fun _ => (1 : Int32)))), (g1, .inl (cI, 4, .inl (fun _ => (1 : Int32)))), (g2, .inl (cI, 4, .inl (fun _ => (1 : Int32))))]) rfl rfl (by decide) (by decide) [3, 0, 1, 2] (by decide) (fun _ => rfl) (fun u hu => ?_)
      refine g_iadd (v := nI (7 + (((sd * 421 + 1663) % 10000 * 421 + 1663) % 10000 / 100 % 3))) B dX1_nextValue_66 (nI_add 7 (((sd * 421 + 1663) % 10000 * 421 + 1663) % 10000 / 100 % 3)) ?_
      exact g_iret_w B hr rfl hlocks (7 + (((sd * 421 + 1663) % 10000 * 421 + 1663) % 10000 / 100 % 3), (((sd * 421 + 1663) % 10000) * 421 + 1663) % 10000) (rfl) (by dsimp only; omega) [0, 1, 2, 3] (by decide) rfl dX1_nextValue_67
    · refine g_iconst (v := (3 : Int32)) B dX1_nextValue_51 (by decide) ?_
      refine g_aload_n B dX1_nextValue_52 0 rfl ?_
      refine g_iconst (v := (4 : Int32)) B dX1_nextValue_53 (by decide) ?_
      refine g_callW (w2 := (fun (_ : Unit) => [(hg, .inr (1, [.ref g0, .ref g1, .ref g2, .int (nI ((((sd * 421 + 1663) % 10000) * 421 + 1663) % 10000))])), (g0, .inl (cI, 4, .inl (fun _ => (1 : Int32)))), (g1, .inl (cI, 4, .inl (fun _ => (1 : Int32)))), (g2, .inl (cI, 4, .inl (fun _ => (1 : Int32))))])) (g_runV (q0 := 0) (ci := 1) B hK rfl rfl (k_drawnBelow_4 l (D := D) (cI := cI) (cL := cL) (cZ := cZ) hg g0 g1 g2 ((sd * 421 + 1663) % 10000) (by omega)) (gPw.pre (av := [.ref hg, .int (4 : Int32)]) (wc := [(hg, .inr (1, [.ref g0, .ref g1, .ref g2, .int (nI ((sd * 421 + 1663) % 10000))]))]) hK hN [0] rfl (by decide)) gX1_nextValue_X1_drawnBelow rfl rfl kd_X1_drawnBelow ⟨by decide, by decide⟩ (st := [.int (3 : Int32)]) rfl (Nat.le_of_ble_eq_true rfl) dX1_nextValue_54 ⟨by decide, by decide⟩) hA (fun _ h => h) [0] [1, 2, 3] (wr := [(g0, .inl (cI, 4, .inl (fun _ => (1 : Int32)))), (g1, .inl (cI, 4, .inl (fun _ => (1 : Int32)))), (g2, .inl (cI, 4, .inl (fun _ => (1 : Int32))))]) rfl rfl (by decide) (by decide) [3, 0, 1, 2] (by decide) (fun _ => rfl) (fun u hu => ?_)
      refine g_iadd (v := nI (3 + (((sd * 421 + 1663) % 10000 * 421 + 1663) % 10000 / 100 % 4))) B dX1_nextValue_57 (nI_add 3 (((sd * 421 + 1663) % 10000 * 421 + 1663) % 10000 / 100 % 4)) ?_
      exact g_iret_w B hr rfl hlocks (3 + (((sd * 421 + 1663) % 10000 * 421 + 1663) % 10000 / 100 % 4), (((sd * 421 + 1663) % 10000) * 421 + 1663) % 10000) (rfl) (by dsimp only; omega) [0, 1, 2, 3] (by decide) rfl dX1_nextValue_58
  · refine g_aload_n B dX1_nextValue_28 0 rfl ?_
    refine g_iconst (v := (3 : Int32)) B dX1_nextValue_29 (by decide) ?_
    refine g_callW (w2 := (fun (_ : Unit) => [(hg, .inr (1, [.ref g0, .ref g1, .ref g2, .int (nI ((((sd * 421 + 1663) % 10000) * 421 + 1663) % 10000))])), (g0, .inl (cI, 4, .inl (fun _ => (1 : Int32)))), (g1, .inl (cI, 4, .inl (fun _ => (1 : Int32)))), (g2, .inl (cI, 4, .inl (fun _ => (1 : Int32))))])) (g_runV (q0 := 0) (ci := 1) B hK rfl rfl (k_drawnBelow_3 l (D := D) (cI := cI) (cL := cL) (cZ := cZ) hg g0 g1 g2 ((sd * 421 + 1663) % 10000) (by omega)) (gPw.pre (av := [.ref hg, .int (3 : Int32)]) (wc := [(hg, .inr (1, [.ref g0, .ref g1, .ref g2, .int (nI ((sd * 421 + 1663) % 10000))]))]) hK hN [0] rfl (by decide)) gX1_nextValue_X1_drawnBelow rfl rfl kd_X1_drawnBelow ⟨by decide, by decide⟩ (st := []) rfl (Nat.le_of_ble_eq_true rfl) dX1_nextValue_30 ⟨by decide, by decide⟩) hA (fun _ h => h) [0] [1, 2, 3] (wr := [(g0, .inl (cI, 4, .inl (fun _ => (1 : Int32)))), (g1, .inl (cI, 4, .inl (fun _ => (1 : Int32)))), (g2, .inl (cI, 4, .inl (fun _ => (1 : Int32))))]) rfl rfl (by decide) (by decide) [3, 0, 1, 2] (by decide) (fun _ => rfl) (fun u hu => ?_)
    exact g_iret_w B hr rfl hlocks (((sd * 421 + 1663) % 10000 * 421 + 1663) % 10000 / 100 % 3, (((sd * 421 + 1663) % 10000) * 421 + 1663) % 10000) (rfl) (by dsimp only; omega) [0, 1, 2, 3] (by decide) rfl dX1_nextValue_33

set_option maxHeartbeats 4000000 in
set_option maxRecDepth 100000 in
theorem k_nextCase_1 (l : Launch) {D : va_G} {cI cL cZ : ClassId} (hg : Nat) (g0 : Nat) (g1 : Nat) (g2 : Nat)  : WM l yX1_nextCase wsX1_nextCase ({ frames := 2, cells := 0, slots := 0, locals := 44 } : Room) D (gTys cI cL cZ) [.ref hg] [(hg, .inr (1, [.ref g0, .ref g1, .ref g2, .int (1 : Int32)])), (g0, .inl (cI, 4, .inl (fun _ => (1 : Int32)))), (g1, .inl (cI, 4, .inl (fun _ => (1 : Int32)))), (g2, .inl (cI, 4, .inl (fun _ => (1 : Int32))))] (fun (_ : Unit) => True) (fun (_ : Unit) => some (.int (7947 : Int32))) (fun (_ : Unit) => [(hg, .inr (1, [.ref g0, .ref g1, .ref g2, .int (9945 : Int32)])), (g0, .inl (cI, 4, .inl (fun _ => (1 : Int32)))), (g1, .inl (cI, 4, .inl (fun _ => (1 : Int32)))), (g2, .inl (cI, 4, .inl (fun _ => (1 : Int32))))]) := by
  refine WM.ofG cX1_nextCase 3 (some .int) (by decide +kernel) rfl (Nat.le_of_ble_eq_true rfl) ?_
  intro p e s m below meth c A hA B hr hlocks hname hK hN
  refine g_iconst (v := (0 : Int32)) B dX1_nextCase_0 (by decide) ?_
  refine g_istore_n (lv' := [(0, .ref hg), (1, .int (0 : Int32))]) B dX1_nextCase_1 rfl (by decide) [1, 0] rfl ?_
  refine g_iconst (v := (0 : Int32)) B dX1_nextCase_2 (by decide) ?_
  refine g_istore_n (lv' := [(0, .ref hg), (1, .int (0 : Int32)), (2, .int (0 : Int32))]) B dX1_nextCase_3 rfl (by decide) [1, 2, 0] rfl ?_
  refine g_iload_n B dX1_nextCase_4 2 rfl ?_
  refine g_iconst (v := (4 : Int32)) B dX1_nextCase_5 (by decide) ?_
  refine g_icmp_ge (tgt := 26) B dX1_nextCase_6 (by decide) (fun c1 => absurd c1 (by decide)) (fun _ => ?_)
  refine g_iload_n B dX1_nextCase_9 1 rfl ?_
  refine g_bipush (v := (10 : Int32)) B dX1_nextCase_10 (by decide) ?_
  refine g_imul (v := (0 : Int32)) B dX1_nextCase_12 (by decide) ?_
  refine g_aload_n B dX1_nextCase_13 0 rfl ?_
  refine g_iload_n B dX1_nextCase_14 2 rfl ?_
  refine g_callW (w2 := (fun (_ : Unit) => [(hg, .inr (1, [.ref g0, .ref g1, .ref g2, .int (9027 : Int32)])), (g0, .inl (cI, 4, .inl (fun _ => (1 : Int32)))), (g1, .inl (cI, 4, .inl (fun _ => (1 : Int32)))), (g2, .inl (cI, 4, .inl (fun _ => (1 : Int32))))])) (g_runV (q0 := 0) (ci := 1) B hK rfl rfl (k_nextValue_c0 l (D := D) (cI := cI) (cL := cL) (cZ := cZ) hg g0 g1 g2 0 (by omega)) (gPw.pre (av := [.ref hg, .int (0 : Int32)]) (wc := [(hg, .inr (1, [.ref g0, .ref g1, .ref g2, .int (1 : Int32)])), (g0, .inl (cI, 4, .inl (fun _ => (1 : Int32)))), (g1, .inl (cI, 4, .inl (fun _ => (1 : Int32)))), (g2, .inl (cI, 4, .inl (fun _ => (1 : Int32))))]) hK hN [0, 1, 2, 3] rfl (by decide)) gX1_nextCase_X1_nextValue rfl rfl kd_X1_nextValue ⟨by decide, by decide⟩ (st := [.int (0 : Int32)]) rfl (Nat.le_of_ble_eq_true rfl) dX1_nextCase_15 ⟨by decide, by decide⟩) hA (fun _ h => h) [0, 1, 2, 3] [] (wr := []) rfl rfl (by decide) (by decide) [0, 1, 2, 3] (by decide) (fun _ => rfl) (fun u hu => ?_)
  refine g_iadd (v := (7 : Int32)) B dX1_nextCase_18 (by decide) ?_
  refine g_istore_n (lv' := [(0, .ref hg), (1, .int (7 : Int32)), (2, .int (0 : Int32))]) B dX1_nextCase_19 rfl (by decide) [1, 0, 2] rfl ?_
  refine g_iinc (lv' := [(0, .ref hg), (1, .int (7 : Int32)), (2, .int (1 : Int32))]) B dX1_nextCase_20 2 rfl (by decide) (by decide) [1, 2, 0] rfl ?_
  refine g_goto (tgt := 4) B dX1_nextCase_23 (by decide) ?_
  refine g_iload_n B dX1_nextCase_4 2 rfl ?_
  refine g_iconst (v := (4 : Int32)) B dX1_nextCase_5 (by decide) ?_
  refine g_icmp_ge (tgt := 26) B dX1_nextCase_6 (by decide) (fun c3 => absurd c3 (by decide)) (fun _ => ?_)
  refine g_iload_n B dX1_nextCase_9 1 rfl ?_
  refine g_bipush (v := (10 : Int32)) B dX1_nextCase_10 (by decide) ?_
  refine g_imul (v := (70 : Int32)) B dX1_nextCase_12 (by decide) ?_
  refine g_aload_n B dX1_nextCase_13 0 rfl ?_
  refine g_iload_n B dX1_nextCase_14 2 rfl ?_
  refine g_callW (w2 := (fun (_ : Unit) => [(hg, .inr (1, [.ref g0, .ref g1, .ref g2, .int (6293 : Int32)])), (g0, .inl (cI, 4, .inl (fun _ => (1 : Int32)))), (g1, .inl (cI, 4, .inl (fun _ => (1 : Int32)))), (g2, .inl (cI, 4, .inl (fun _ => (1 : Int32))))])) (g_runV (q0 := 0) (ci := 1) B hK rfl rfl (k_nextValue_c1 l (D := D) (cI := cI) (cL := cL) (cZ := cZ) hg g0 g1 g2 1 (by omega)) (gPw.pre (av := [.ref hg, .int (1 : Int32)]) (wc := [(hg, .inr (1, [.ref g0, .ref g1, .ref g2, .int (9027 : Int32)])), (g0, .inl (cI, 4, .inl (fun _ => (1 : Int32)))), (g1, .inl (cI, 4, .inl (fun _ => (1 : Int32)))), (g2, .inl (cI, 4, .inl (fun _ => (1 : Int32))))]) hK hN [0, 1, 2, 3] rfl (by decide)) gX1_nextCase_X1_nextValue rfl rfl kd_X1_nextValue ⟨by decide, by decide⟩ (st := [.int (70 : Int32)]) rfl (Nat.le_of_ble_eq_true rfl) dX1_nextCase_15 ⟨by decide, by decide⟩) hA (fun _ h => h) [0, 1, 2, 3] [] (wr := []) rfl rfl (by decide) (by decide) [0, 1, 2, 3] (by decide) (fun _ => rfl) (fun u hu => ?_)
  refine g_iadd (v := (79 : Int32)) B dX1_nextCase_18 (by decide) ?_
  refine g_istore_n (lv' := [(0, .ref hg), (1, .int (79 : Int32)), (2, .int (1 : Int32))]) B dX1_nextCase_19 rfl (by decide) [1, 0, 2] rfl ?_
  refine g_iinc (lv' := [(0, .ref hg), (1, .int (79 : Int32)), (2, .int (2 : Int32))]) B dX1_nextCase_20 2 rfl (by decide) (by decide) [1, 2, 0] rfl ?_
  refine g_goto (tgt := 4) B dX1_nextCase_23 (by decide) ?_
  refine g_iload_n B dX1_nextCase_4 2 rfl ?_
  refine g_iconst (v := (4 : Int32)) B dX1_nextCase_5 (by decide) ?_
  refine g_icmp_ge (tgt := 26) B dX1_nextCase_6 (by decide) (fun c5 => absurd c5 (by decide)) (fun _ => ?_)
  refine g_iload_n B dX1_nextCase_9 1 rfl ?_
  refine g_bipush (v := (10 : Int32)) B dX1_nextCase_10 (by decide) ?_
  refine g_imul (v := (790 : Int32)) B dX1_nextCase_12 (by decide) ?_
  refine g_aload_n B dX1_nextCase_13 0 rfl ?_
  refine g_iload_n B dX1_nextCase_14 2 rfl ?_
  refine g_callW (w2 := (fun (_ : Unit) => [(hg, .inr (1, [.ref g0, .ref g1, .ref g2, .int (9399 : Int32)])), (g0, .inl (cI, 4, .inl (fun _ => (1 : Int32)))), (g1, .inl (cI, 4, .inl (fun _ => (1 : Int32)))), (g2, .inl (cI, 4, .inl (fun _ => (1 : Int32))))])) (g_runV (q0 := 0) (ci := 1) B hK rfl rfl (k_nextValue_c2 l (D := D) (cI := cI) (cL := cL) (cZ := cZ) hg g0 g1 g2 2 (by omega)) (gPw.pre (av := [.ref hg, .int (2 : Int32)]) (wc := [(hg, .inr (1, [.ref g0, .ref g1, .ref g2, .int (6293 : Int32)])), (g0, .inl (cI, 4, .inl (fun _ => (1 : Int32)))), (g1, .inl (cI, 4, .inl (fun _ => (1 : Int32)))), (g2, .inl (cI, 4, .inl (fun _ => (1 : Int32))))]) hK hN [0, 1, 2, 3] rfl (by decide)) gX1_nextCase_X1_nextValue rfl rfl kd_X1_nextValue ⟨by decide, by decide⟩ (st := [.int (790 : Int32)]) rfl (Nat.le_of_ble_eq_true rfl) dX1_nextCase_15 ⟨by decide, by decide⟩) hA (fun _ h => h) [0, 1, 2, 3] [] (wr := []) rfl rfl (by decide) (by decide) [0, 1, 2, 3] (by decide) (fun _ => rfl) (fun u hu => ?_)
  refine g_iadd (v := (794 : Int32)) B dX1_nextCase_18 (by decide) ?_
  refine g_istore_n (lv' := [(0, .ref hg), (1, .int (794 : Int32)), (2, .int (2 : Int32))]) B dX1_nextCase_19 rfl (by decide) [1, 0, 2] rfl ?_
  refine g_iinc (lv' := [(0, .ref hg), (1, .int (794 : Int32)), (2, .int (3 : Int32))]) B dX1_nextCase_20 2 rfl (by decide) (by decide) [1, 2, 0] rfl ?_
  refine g_goto (tgt := 4) B dX1_nextCase_23 (by decide) ?_
  refine g_iload_n B dX1_nextCase_4 2 rfl ?_
  refine g_iconst (v := (4 : Int32)) B dX1_nextCase_5 (by decide) ?_
  refine g_icmp_ge (tgt := 26) B dX1_nextCase_6 (by decide) (fun c7 => absurd c7 (by decide)) (fun _ => ?_)
  refine g_iload_n B dX1_nextCase_9 1 rfl ?_
  refine g_bipush (v := (10 : Int32)) B dX1_nextCase_10 (by decide) ?_
  refine g_imul (v := (7940 : Int32)) B dX1_nextCase_12 (by decide) ?_
  refine g_aload_n B dX1_nextCase_13 0 rfl ?_
  refine g_iload_n B dX1_nextCase_14 2 rfl ?_
  refine g_callW (w2 := (fun (_ : Unit) => [(hg, .inr (1, [.ref g0, .ref g1, .ref g2, .int (9945 : Int32)])), (g0, .inl (cI, 4, .inl (fun _ => (1 : Int32)))), (g1, .inl (cI, 4, .inl (fun _ => (1 : Int32)))), (g2, .inl (cI, 4, .inl (fun _ => (1 : Int32))))])) (g_runV (q0 := 0) (ci := 1) B hK rfl rfl (k_nextValue_c3 l (D := D) (cI := cI) (cL := cL) (cZ := cZ) hg g0 g1 g2 3 (by omega)) (gPw.pre (av := [.ref hg, .int (3 : Int32)]) (wc := [(hg, .inr (1, [.ref g0, .ref g1, .ref g2, .int (9399 : Int32)])), (g0, .inl (cI, 4, .inl (fun _ => (1 : Int32)))), (g1, .inl (cI, 4, .inl (fun _ => (1 : Int32)))), (g2, .inl (cI, 4, .inl (fun _ => (1 : Int32))))]) hK hN [0, 1, 2, 3] rfl (by decide)) gX1_nextCase_X1_nextValue rfl rfl kd_X1_nextValue ⟨by decide, by decide⟩ (st := [.int (7940 : Int32)]) rfl (Nat.le_of_ble_eq_true rfl) dX1_nextCase_15 ⟨by decide, by decide⟩) hA (fun _ h => h) [0, 1, 2, 3] [] (wr := []) rfl rfl (by decide) (by decide) [0, 1, 2, 3] (by decide) (fun _ => rfl) (fun u hu => ?_)
  refine g_iadd (v := (7947 : Int32)) B dX1_nextCase_18 (by decide) ?_
  refine g_istore_n (lv' := [(0, .ref hg), (1, .int (7947 : Int32)), (2, .int (3 : Int32))]) B dX1_nextCase_19 rfl (by decide) [1, 0, 2] rfl ?_
  refine g_iinc (lv' := [(0, .ref hg), (1, .int (7947 : Int32)), (2, .int (4 : Int32))]) B dX1_nextCase_20 2 rfl (by decide) (by decide) [1, 2, 0] rfl ?_
  refine g_goto (tgt := 4) B dX1_nextCase_23 (by decide) ?_
  refine g_iload_n B dX1_nextCase_4 2 rfl ?_
  refine g_iconst (v := (4 : Int32)) B dX1_nextCase_5 (by decide) ?_
  refine g_icmp_ge (tgt := 26) B dX1_nextCase_6 (by decide) (fun _ => ?_) (fun c9 => absurd (by decide) c9)
  refine g_iload_n B dX1_nextCase_26 1 rfl ?_
  exact g_iret_w B hr rfl hlocks () (rfl) (trivial) [0, 1, 2, 3] (by decide) rfl dX1_nextCase_27

set_option maxHeartbeats 4000000 in
set_option maxRecDepth 100000 in
theorem k_nextCase_n (l : Launch) {D : va_G} {cI cL cZ : ClassId} (hg : Nat) (g0 : Nat) (g1 : Nat) (g2 : Nat) (sd : Nat) (hs : sd < 10000) : WM l yX1_nextCase wsX1_nextCase ({ frames := 2, cells := 0, slots := 0, locals := 44 } : Room) D (gTys cI cL cZ) [.ref hg] [(hg, .inr (1, [.ref g0, .ref g1, .ref g2, .int (nI sd)])), (g0, .inl (cI, 4, .inl (fun _ => (1 : Int32)))), (g1, .inl (cI, 4, .inl (fun _ => (1 : Int32)))), (g2, .inl (cI, 4, .inl (fun _ => (1 : Int32))))] (fun (q : Nat × Nat) => q.1 < 10000 ∧ q.2 < 10000) (fun (q : Nat × Nat) => some (.int (nI q.1))) (fun (q : Nat × Nat) => [(hg, .inr (1, [.ref g0, .ref g1, .ref g2, .int (nI q.2)])), (g0, .inl (cI, 4, .inl (fun _ => (1 : Int32)))), (g1, .inl (cI, 4, .inl (fun _ => (1 : Int32)))), (g2, .inl (cI, 4, .inl (fun _ => (1 : Int32))))]) := by
  refine WM.ofG cX1_nextCase 3 (some .int) (by decide +kernel) rfl (Nat.le_of_ble_eq_true rfl) ?_
  intro p e s m below meth c A hA B hr hlocks hname hK hN
  refine g_iconst (v := (0 : Int32)) B dX1_nextCase_0 (by decide) ?_
  refine g_istore_n (lv' := [(0, .ref hg), (1, .int (0 : Int32))]) B dX1_nextCase_1 rfl (by decide) [1, 0] rfl ?_
  refine g_iconst (v := (0 : Int32)) B dX1_nextCase_2 (by decide) ?_
  refine g_istore_n (lv' := [(0, .ref hg), (1, .int (0 : Int32)), (2, .int (0 : Int32))]) B dX1_nextCase_3 rfl (by decide) [1, 2, 0] rfl ?_
  refine g_loop (σ := Nat × Nat × Nat) (fun x9 => x9.1 ≤ 4 ∧ x9.2.2 < 10000 ∧ ((x9.1 = 0 ∧ x9.2.1 = 0) ∨ (x9.1 = 1 ∧ x9.2.1 < 10) ∨ (x9.1 = 2 ∧ x9.2.1 < 100) ∨ (x9.1 = 3 ∧ x9.2.1 < 1000) ∨ (x9.1 = 4 ∧ x9.2.1 < 10000))) (fun x9 => 5 - x9.1) (fun x9 => 0) (fun x9 => 0) (fun x9 => [(hg, .inr (1, [.ref g0, .ref g1, .ref g2, .int (nI x9.2.2)])), (g0, .inl (cI, 4, .inl (fun _ => (1 : Int32)))), (g1, .inl (cI, 4, .inl (fun _ => (1 : Int32)))), (g2, .inl (cI, 4, .inl (fun _ => (1 : Int32))))]) (fun x9 => [(0, .ref hg), (1, .int (nI x9.2.1)), (2, .int (nI x9.1))]) (fun x9 hI ih4 => ?_) (0, 0, sd) (by (try dsimp only); omega) rfl rfl rfl rfl
  obtain ⟨k, cc, sd1⟩ := x9
  try dsimp only at hI ih4 ⊢
  refine g_iload_n B dX1_nextCase_4 2 rfl ?_
  refine g_iconst (v := (4 : Int32)) B dX1_nextCase_5 (by decide) ?_
  refine g_ncmp_ge (tgt := 26) B k 4 rfl rfl (by omega) (by omega) dX1_nextCase_6 (by decide) (fun c1 => ?_) (fun c1 => ?_)
  · refine g_iload_n B dX1_nextCase_26 1 rfl ?_
    exact g_iret_w B hr rfl hlocks (cc, sd1) (rfl) (by dsimp only; omega) [0, 1, 2, 3] (by decide) rfl dX1_nextCase_27
  · refine g_iload_n B dX1_nextCase_9 1 rfl ?_
    refine g_bipush (v := (10 : Int32)) B dX1_nextCase_10 (by decide) ?_
    refine g_imul (v := nI (cc * 10)) B dX1_nextCase_12 (pk_mul cc 10) ?_
    refine g_aload_n B dX1_nextCase_13 0 rfl ?_
    refine g_iload_n B dX1_nextCase_14 2 rfl ?_
    refine g_callW (w2 := (fun (z9 : Nat × Nat) => [(hg, .inr (1, [.ref g0, .ref g1, .ref g2, .int (nI z9.2)])), (g0, .inl (cI, 4, .inl (fun _ => (1 : Int32)))), (g1, .inl (cI, 4, .inl (fun _ => (1 : Int32)))), (g2, .inl (cI, 4, .inl (fun _ => (1 : Int32))))])) (g_runV (q0 := 0) (ci := 1) B hK rfl rfl (k_nextValue_n l (D := D) (cI := cI) (cL := cL) (cZ := cZ) hg g0 g1 g2 sd1 k (by omega) (by omega)) (gPw.pre (av := [.ref hg, .int (nI k)]) (wc := [(hg, .inr (1, [.ref g0, .ref g1, .ref g2, .int (nI sd1)])), (g0, .inl (cI, 4, .inl (fun _ => (1 : Int32)))), (g1, .inl (cI, 4, .inl (fun _ => (1 : Int32)))), (g2, .inl (cI, 4, .inl (fun _ => (1 : Int32))))]) hK hN [0, 1, 2, 3] rfl (by decide)) gX1_nextCase_X1_nextValue rfl rfl kd_X1_nextValue ⟨by decide, by decide⟩ (st := [.int (nI (cc * 10))]) rfl (Nat.le_of_ble_eq_true rfl) dX1_nextCase_15 ⟨by decide, by decide⟩) hA (fun _ h => h) [0, 1, 2, 3] [] (wr := []) rfl rfl (by decide) (by decide) [0, 1, 2, 3] (by decide) (fun _ => rfl) (fun u hu => ?_)
    obtain ⟨v2_2, sd2_2⟩ := u
    try dsimp only at hu ⊢
    have hu2 := hu
    refine g_iadd (v := nI ((cc * 10) + v2_2)) B dX1_nextCase_18 (nI_add (cc * 10) v2_2) ?_
    refine g_istore_n (lv' := [(0, .ref hg), (1, .int (nI ((cc * 10) + v2_2))), (2, .int (nI k))]) B dX1_nextCase_19 rfl (by decide) [1, 0, 2] rfl ?_
    refine g_iinc (lv' := [(0, .ref hg), (1, .int (nI ((cc * 10) + v2_2))), (2, .int (nI (k + 1)))]) B dX1_nextCase_20 2 rfl (nI_1 k) (by decide) [1, 2, 0] rfl ?_
    refine g_goto (tgt := 4) B dX1_nextCase_23 (by decide) ?_
    exact ih4 (k + 1, (cc * 10) + v2_2, sd2_2) (by (try dsimp only); omega) (by (try dsimp only); omega)

