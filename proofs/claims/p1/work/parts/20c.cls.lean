/-! the class on a fresh object: archive, relations -/
theorem kd_X0_foundAloneBy : yX0_foundAloneBy.cls ≠ "java/lang/invoke/MethodHandle" ∧ yX0_foundAloneBy.cls ≠ "java/lang/invoke/VarHandle" ∧ (parseMethodDescriptor yX0_foundAloneBy.desc).map (fun d => d.parameters.length) = some 2 := by decide +kernel
theorem kd_X0_foundBy : yX0_foundBy.cls ≠ "java/lang/invoke/MethodHandle" ∧ yX0_foundBy.cls ≠ "java/lang/invoke/VarHandle" ∧ (parseMethodDescriptor yX0_foundBy.desc).map (fun d => d.parameters.length) = some 1 := by decide +kernel
theorem kd_X0_keptIfTasted : yX0_keptIfTasted.cls ≠ "java/lang/invoke/MethodHandle" ∧ yX0_keptIfTasted.cls ≠ "java/lang/invoke/VarHandle" ∧ (parseMethodDescriptor yX0_keptIfTasted.desc).map (fun d => d.parameters.length) = some 2 := by decide +kernel
theorem kd_X0_neededOf : yX0_neededOf.cls ≠ "java/lang/invoke/MethodHandle" ∧ yX0_neededOf.cls ≠ "java/lang/invoke/VarHandle" ∧ (parseMethodDescriptor yX0_neededOf.desc).map (fun d => d.parameters.length) = some 1 := by decide +kernel
theorem kd_X0_note : yX0_note.cls ≠ "java/lang/invoke/MethodHandle" ∧ yX0_note.cls ≠ "java/lang/invoke/VarHandle" ∧ (parseMethodDescriptor yX0_note.desc).map (fun d => d.parameters.length) = some 2 := by decide +kernel
theorem kd_X0_numberOf : yX0_numberOf.cls ≠ "java/lang/invoke/MethodHandle" ∧ yX0_numberOf.cls ≠ "java/lang/invoke/VarHandle" ∧ (parseMethodDescriptor yX0_numberOf.desc).map (fun d => d.parameters.length) = some 1 := by decide +kernel
theorem kd_X0_settle : yX0_settle.cls ≠ "java/lang/invoke/MethodHandle" ∧ yX0_settle.cls ≠ "java/lang/invoke/VarHandle" ∧ (parseMethodDescriptor yX0_settle.desc).map (fun d => d.parameters.length) = some 0 := by decide +kernel
theorem kd_X0_take : yX0_take.cls ≠ "java/lang/invoke/MethodHandle" ∧ yX0_take.cls ≠ "java/lang/invoke/VarHandle" ∧ (parseMethodDescriptor yX0_take.desc).map (fun d => d.parameters.length) = some 1 := by decide +kernel
theorem hin_X0_allKnown_RX0 : ∀ z ∈ u_ws RX0 TX0 6, z ∈ wsX0_allKnown := by decide +kernel
theorem hin_X0_coverersOf_RX0 : ∀ z ∈ u_ws RX0 TX0 6, z ∈ wsX0_coverersOf := by decide +kernel
theorem hin_X0_foundAloneBy_RX0 : ∀ z ∈ u_ws RX0 TX0 6, z ∈ wsX0_foundAloneBy := by decide +kernel
theorem hin_X0_keptIfTasted_RX0 : ∀ z ∈ u_ws RX0 TX0 6, z ∈ wsX0_keptIfTasted := by decide +kernel
theorem hin_X0_mostEnergetic_RX0 : ∀ z ∈ u_ws RX0 TX0 6, z ∈ wsX0_mostEnergetic := by decide +kernel
theorem hin_X0_note_RX0 : ∀ z ∈ u_ws RX0 TX0 6, z ∈ wsX0_note := by decide +kernel
theorem hin_X0_note_RX4 : ∀ z ∈ u_ws RX4 TX4 4, z ∈ wsX0_note := by decide +kernel
theorem hin_X0_numberOf_RX0 : ∀ z ∈ u_ws RX0 TX0 6, z ∈ wsX0_numberOf := by decide +kernel
theorem hin_X0_settle_RX0 : ∀ z ∈ u_ws RX0 TX0 6, z ∈ wsX0_settle := by decide +kernel
theorem hin_X0_take_RX0 : ∀ z ∈ u_ws RX0 TX0 6, z ∈ wsX0_take := by decide +kernel
theorem hin_X3_add_RX3 : ∀ z ∈ u_ws RX3 TX3 4, z ∈ wsX3_add := by decide +kernel
theorem hin_X5_keptAfterChange_RX0 : ∀ z ∈ u_ws RX0 TX0 6, z ∈ wsX5_keptAfterChange := by decide +kernel
theorem hin_X5_keptAfterChange_RX5 : ∀ z ∈ u_ws RX5 TX5 5, z ∈ wsX5_keptAfterChange := by decide +kernel
theorem hin_X5_tasteOf_RX5 : ∀ z ∈ u_ws RX5 TX5 5, z ∈ wsX5_tasteOf := by decide +kernel
set_option maxHeartbeats 4000000 in
set_option maxRecDepth 100000 in
theorem k_allKnown (l : Launch) {D : va_G} {cI cL cZ : ClassId} (ha : Nat) (a0 : Nat) (a1 : Nat) (a2 : Nat) (a3 : Nat)  : PM l yX0_allKnown wsX0_allKnown ({ frames := 1, cells := 0, slots := 0, locals := 20 } : Room) D (gTys cI cL cZ) [.ref ha] [(ha, .inr (0, [.ref a0, .ref a1, .ref a2, .ref a3, .int (0 : Int32), .long (0 : Int64)]))] (fun (_ : Unit) => True) (fun (_ : Unit) => some (.long (0 : Int64))) := by
  refine PM.ofG cX0_allKnown 1 (some .long) (by decide +kernel) rfl (Nat.le_of_ble_eq_true rfl) ?_
  intro p e s m below meth c B hr hlocks hname hK hN
  refine g_aload_n B dX0_allKnown_0 0 rfl ?_
  refine g_get (C := RX0) (T := TX0) (N := 6) (ci := 0) B hK hin_X0_allKnown_RX0 0 rfl rfl 4 (by decide) (List.mem_of_getElem? (i := 1) rfl) rfl (v := .int (0 : Int32)) rfl dX0_allKnown_1 ?_
  refine g_callP (g_runSN B hN (PM.met (c_X5_bit l (D := D) (cI := cI) (cL := cL) (cZ := cZ) 0 (by omega))) (gPp.pre (av := [.int (0 : Int32)]) (wc := []) hK hN [] rfl (by decide)) gX0_allKnown_X5_bit_n37 (List.mem_of_getElem? (i := 3) rfl) (List.mem_of_getElem? (i := 2) rfl) 4 rfl rfl kd_X5_bit ⟨by decide, by decide⟩ (st := []) rfl (Nat.le_of_ble_eq_true rfl) dX0_allKnown_4 ⟨by decide, by decide⟩) (fun u hu => ?_)
  obtain ⟨r_1, e9⟩ : ∃ z, z = u := ⟨_, rfl⟩; subst e9
  try dsimp only at hu ⊢
  have e1_0 := hu
  subst e1_0
  refine g_eql (y := (1 : Int64)) (by decide) ?_
  refine g_lconst (v := (1 : Int64)) B dX0_allKnown_7 rfl ?_
  refine g_lsub (v := (0 : Int64)) B dX0_allKnown_8 (by decide) ?_
  exact g_lret_p B hr hlocks () (rfl) (trivial) dX0_allKnown_9

set_option maxHeartbeats 4000000 in
set_option maxRecDepth 100000 in
theorem k_numberOf_0 (l : Launch) {D : va_G} {cI cL cZ : ClassId} (ha : Nat) (a0 : Nat) (a1 : Nat) (a2 : Nat) (a3 : Nat) (te : Int32)  : PM l yX0_numberOf wsX0_numberOf ({ frames := 0, cells := 0, slots := 0, locals := 0 } : Room) D (gTys cI cL cZ) [.ref ha, .int te] [(ha, .inr (0, [.ref a0, .ref a1, .ref a2, .ref a3, .int (0 : Int32), .long (0 : Int64)]))] (fun (_ : Unit) => True) (fun (_ : Unit) => some (.int (-1 : Int32))) := by
  refine PM.ofG cX0_numberOf 3 (some .int) (by decide +kernel) rfl (Nat.le_of_ble_eq_true rfl) ?_
  intro p e s m below meth c B hr hlocks hname hK hN
  refine g_iconst (v := (0 : Int32)) B dX0_numberOf_0 (by decide) ?_
  refine g_istore_n (lv' := [(0, .ref ha), (1, .int te), (2, .int (0 : Int32))]) B dX0_numberOf_1 rfl (by decide) [1, 2, 0] rfl ?_
  refine g_iload_n B dX0_numberOf_2 2 rfl ?_
  refine g_aload_n B dX0_numberOf_3 0 rfl ?_
  refine g_get (C := RX0) (T := TX0) (N := 6) (ci := 0) B hK hin_X0_numberOf_RX0 0 rfl rfl 4 (by decide) (List.mem_of_getElem? (i := 1) rfl) rfl (v := .int (0 : Int32)) rfl dX0_numberOf_4 ?_
  refine g_icmp_ge (tgt := 34) B dX0_numberOf_7 (by decide) (fun _ => ?_) (fun c1 => absurd (by decide) c1)
  refine g_iconst (v := (-1 : Int32)) B dX0_numberOf_34 (by decide) ?_
  exact g_iret_p B hr rfl hlocks () (rfl) (trivial) dX0_numberOf_35

set_option maxHeartbeats 4000000 in
set_option maxRecDepth 100000 in
theorem k_numberOf_1 (l : Launch) {D : va_G} {cI cL cZ : ClassId} (ha : Nat) (a0 : Nat) (a1 : Nat) (a2 : Nat) (a3 : Nat) (fa0 : Nat → Int32) (t : Nat) (ht1 : t < 10000) : PM l yX0_numberOf wsX0_numberOf ({ frames := 0, cells := 0, slots := 0, locals := 0 } : Room) D (gTys cI cL cZ) [.ref ha, .int (nI t)] [(ha, .inr (0, [.ref a0, .ref a1, .ref a2, .ref a3, .int (1 : Int32), .long (1 : Int64)])), (a0, .inl (cI, 41, .inl (upd fa0 0 (nI t))))] (fun (_ : Unit) => True) (fun (_ : Unit) => some (.int (0 : Int32))) := by
  refine PM.ofG cX0_numberOf 3 (some .int) (by decide +kernel) rfl (Nat.le_of_ble_eq_true rfl) ?_
  intro p e s m below meth c B hr hlocks hname hK hN
  refine g_iconst (v := (0 : Int32)) B dX0_numberOf_0 (by decide) ?_
  refine g_istore_n (lv' := [(0, .ref ha), (1, .int (nI t)), (2, .int (0 : Int32))]) B dX0_numberOf_1 rfl (by decide) [1, 2, 0] rfl ?_
  refine g_iload_n B dX0_numberOf_2 2 rfl ?_
  refine g_aload_n B dX0_numberOf_3 0 rfl ?_
  refine g_get (C := RX0) (T := TX0) (N := 6) (ci := 0) B hK hin_X0_numberOf_RX0 0 rfl rfl 4 (by decide) (List.mem_of_getElem? (i := 1) rfl) rfl (v := .int (1 : Int32)) rfl dX0_numberOf_4 ?_
  refine g_icmp_ge (tgt := 34) B dX0_numberOf_7 (by decide) (fun c1 => absurd c1 (by decide)) (fun _ => ?_)
  refine g_iload_n B dX0_numberOf_10 2 rfl ?_
  refine g_bipush (v := (40 : Int32)) B dX0_numberOf_11 (by decide) ?_
  refine g_icmp_ge (tgt := 34) B dX0_numberOf_13 (by decide) (fun c2 => absurd c2 (by decide)) (fun _ => ?_)
  refine g_aload_n B dX0_numberOf_16 0 rfl ?_
  refine g_get (C := RX0) (T := TX0) (N := 6) (ci := 0) B hK hin_X0_numberOf_RX0 0 rfl rfl 0 (by decide) (List.mem_of_getElem? (i := 2) rfl) rfl (v := .ref a0) rfl dX0_numberOf_17 ?_
  refine g_iload_n B dX0_numberOf_20 2 rfl ?_
  refine g_iald B hK 1 0 rfl rfl 0 rfl (by omega) (by omega) (v := nI t) rfl dX0_numberOf_21 ?_
  refine g_iload_n B dX0_numberOf_22 1 rfl ?_
  refine g_ncmp_ne (tgt := 28) B t t rfl rfl (by omega) (by omega) dX0_numberOf_23 (by decide) (fun c3 => ?_) (fun c3 => ?_)
  · exfalso; exact absurd rfl c3
  refine g_iload_n B dX0_numberOf_26 2 rfl ?_
  exact g_iret_p B hr rfl hlocks () (rfl) (trivial) dX0_numberOf_27

set_option maxHeartbeats 4000000 in
set_option maxRecDepth 100000 in
theorem k_note (l : Launch) {D : va_G} {cI cL cZ : ClassId} (ha : Nat) (a0 : Nat) (a1 : Nat) (a2 : Nat) (a3 : Nat) (fa1 : Nat → Int32) (fa3 : Nat → Int64) (ht : Nat) (t0 : Nat)  : WM l yX0_note wsX0_note ({ frames := 0, cells := 0, slots := 0, locals := 0 } : Room) D (gTys cI cL cZ) [.ref ha, .int (0 : Int32), .ref ht] [(ha, .inr (0, [.ref a0, .ref a1, .ref a2, .ref a3, .int (0 : Int32), .long (0 : Int64)])), (a1, .inl (cI, 41, .inl fa1)), (a3, .inl (cL, 41, .inr (.inl fa3))), (ht, .inr (4, [.ref t0, .int (1 : Int32), .int (1 : Int32), .long (2 : Int64)]))] (fun (_ : Unit) => True) (fun (_ : Unit) => none) (fun (_ : Unit) => [(ha, .inr (0, [.ref a0, .ref a1, .ref a2, .ref a3, .int (0 : Int32), .long (0 : Int64)])), (a1, .inl (cI, 41, .inl (upd fa1 0 (1 : Int32)))), (a3, .inl (cL, 41, .inr (.inl (vp_updL fa3 0 (2 : Int64))))), (ht, .inr (4, [.ref t0, .int (1 : Int32), .int (1 : Int32), .long (2 : Int64)]))]) := by
  refine WM.ofG cX0_note 3 none (by decide +kernel) rfl (Nat.le_of_ble_eq_true rfl) ?_
  intro p e s m below meth c A hA B hr hlocks hname hK hN
  refine g_aload_n B dX0_note_0 0 rfl ?_
  refine g_get (C := RX0) (T := TX0) (N := 6) (ci := 0) B hK hin_X0_note_RX0 0 rfl rfl 1 (by decide) (List.mem_of_getElem? (i := 1) rfl) rfl (v := .ref a1) rfl dX0_note_1 ?_
  refine g_iload_n B dX0_note_4 1 rfl ?_
  refine g_aload_n B dX0_note_5 2 rfl ?_
  refine g_getN (C := RX4) (T := TX4) (N := 4) (ci := 4) B hK hin_X0_note_RX4 3 rfl rfl 2 (by decide) hN 15 rfl rfl (v := .int (1 : Int32)) rfl dX0_note_6 ?_
  refine g_iast B hK 1 0 rfl rfl 0 rfl (by omega) (by omega) (f2 := (upd fa1 0 (1 : Int32))) (rfl) (w2 := [(ha, .inr (0, [.ref a0, .ref a1, .ref a2, .ref a3, .int (0 : Int32), .long (0 : Int64)])), (a1, .inl (cI, 41, .inl (upd fa1 0 (1 : Int32)))), (a3, .inl (cL, 41, .inr (.inl fa3))), (ht, .inr (4, [.ref t0, .int (1 : Int32), .int (1 : Int32), .long (2 : Int64)]))]) rfl (fun _ h => h) dX0_note_9 ?_
  refine g_aload_n B dX0_note_10 0 rfl ?_
  refine g_get (C := RX0) (T := TX0) (N := 6) (ci := 0) B hK hin_X0_note_RX0 0 rfl rfl 3 (by decide) (List.mem_of_getElem? (i := 2) rfl) rfl (v := .ref a3) rfl dX0_note_11 ?_
  refine g_iload_n B dX0_note_14 1 rfl ?_
  refine g_aload_n B dX0_note_15 2 rfl ?_
  refine g_getN (C := RX4) (T := TX4) (N := 4) (ci := 4) B hK hin_X0_note_RX4 3 rfl rfl 3 (by decide) hN 16 rfl rfl (v := .long (2 : Int64)) rfl dX0_note_16 ?_
  refine g_last B hK 2 1 rfl rfl 0 rfl (by omega) (by omega) (f2 := (vp_updL fa3 0 (2 : Int64))) (rfl) (w2 := [(ha, .inr (0, [.ref a0, .ref a1, .ref a2, .ref a3, .int (0 : Int32), .long (0 : Int64)])), (a1, .inl (cI, 41, .inl (upd fa1 0 (1 : Int32)))), (a3, .inl (cL, 41, .inr (.inl (vp_updL fa3 0 (2 : Int64))))), (ht, .inr (4, [.ref t0, .int (1 : Int32), .int (1 : Int32), .long (2 : Int64)]))]) rfl (fun _ h => h) dX0_note_19 ?_
  exact g_vret_w B hr hlocks () (rfl) (trivial) [0, 1, 2, 3] (by decide) rfl dX0_note_20

set_option maxHeartbeats 4000000 in
set_option maxRecDepth 100000 in
theorem k_foundBy_0 (l : Launch) {D : va_G} {cI cL cZ : ClassId} (ha : Nat) (a0 : Nat) (a1 : Nat) (a2 : Nat) (a3 : Nat) (cn : Int32) (kp : Int64)  : PM l yX0_foundBy wsX0_foundBy ({ frames := 0, cells := 0, slots := 0, locals := 0 } : Room) D (gTys cI cL cZ) [.ref ha, .long (0 : Int64)] [(ha, .inr (0, [.ref a0, .ref a1, .ref a2, .ref a3, .int cn, .long kp]))] (fun (_ : Unit) => True) (fun (_ : Unit) => some (.long (0 : Int64))) := by
  refine PM.ofG cX0_foundBy 6 (some .long) (by decide +kernel) rfl (Nat.le_of_ble_eq_true rfl) ?_
  intro p e s m below meth c B hr hlocks hname hK hN
  refine g_lconst (v := (0 : Int64)) B dX0_foundBy_0 rfl ?_
  refine g_lstore_n (lv' := [(0, .ref ha), (1, .long (0 : Int64)), (3, .long (0 : Int64))]) B dX0_foundBy_1 rfl (by decide) [1, 2, 0] rfl ?_
  refine g_iconst (v := (0 : Int32)) B dX0_foundBy_2 (by decide) ?_
  refine g_istore (lv' := [(0, .ref ha), (1, .long (0 : Int64)), (3, .long (0 : Int64)), (5, .int (0 : Int32))]) B dX0_foundBy_3 (by decide) [1, 2, 3, 0] rfl ?_
  refine g_iload B dX0_foundBy_5 3 rfl ?_
  refine g_bipush (v := (41 : Int32)) B dX0_foundBy_7 (by decide) ?_
  refine g_icmp_ge (tgt := 46) B dX0_foundBy_9 (by decide) (fun c1 => absurd c1 (by decide)) (fun _ => ?_)
  refine g_lload_n B dX0_foundBy_12 1 rfl ?_
  refine g_iload B dX0_foundBy_13 3 rfl ?_
  refine g_lushr (v := (0 : Int64)) B dX0_foundBy_15 (by decide) ?_
  refine g_lconst (v := (0 : Int64)) B dX0_foundBy_16 rfl ?_
  refine g_lcmp (v := (0 : Int32)) B dX0_foundBy_17 (by decide) ?_
  refine g_if_eq (tgt := 46) B dX0_foundBy_18 (by decide) (fun _ => ?_) (fun c2 => absurd (by decide) c2)
  refine g_lload_n B dX0_foundBy_46 2 rfl ?_
  exact g_lret_p B hr hlocks () (rfl) (trivial) dX0_foundBy_47

set_option maxHeartbeats 4000000 in
set_option maxRecDepth 100000 in
theorem k_foundAloneBy_0 (l : Launch) {D : va_G} {cI cL cZ : ClassId} (ha : Nat) (a0 : Nat) (a1 : Nat) (a2 : Nat) (a3 : Nat) (fa3 : Nat → Int64)  : PM l yX0_foundAloneBy wsX0_foundAloneBy ({ frames := 1, cells := 0, slots := 0, locals := 25 } : Room) D (gTys cI cL cZ) [.ref ha, .int (0 : Int32), .long (0 : Int64)] [(ha, .inr (0, [.ref a0, .ref a1, .ref a2, .ref a3, .int (0 : Int32), .long (0 : Int64)])), (a3, .inl (cL, 41, .inr (.inl (vp_updL fa3 0 (2 : Int64)))))] (fun (_ : Unit) => True) (fun (_ : Unit) => some (.long (2 : Int64))) := by
  refine PM.ofG cX0_foundAloneBy 4 (some .long) (by decide +kernel) rfl (Nat.le_of_ble_eq_true rfl) ?_
  intro p e s m below meth c B hr hlocks hname hK hN
  refine g_aload_n B dX0_foundAloneBy_0 0 rfl ?_
  refine g_get (C := RX0) (T := TX0) (N := 6) (ci := 0) B hK hin_X0_foundAloneBy_RX0 0 rfl rfl 3 (by decide) (List.mem_of_getElem? (i := 1) rfl) rfl (v := .ref a3) rfl dX0_foundAloneBy_1 ?_
  refine g_iload_n B dX0_foundAloneBy_4 1 rfl ?_
  refine g_lald B hK 1 1 rfl rfl 0 rfl (by omega) (by omega) (v := (2 : Int64)) rfl dX0_foundAloneBy_5 ?_
  refine g_aload_n B dX0_foundAloneBy_6 0 rfl ?_
  refine g_lload_n B dX0_foundAloneBy_7 2 rfl ?_
  refine g_iload_n B dX0_foundAloneBy_8 1 rfl ?_
  refine g_callP (g_runSN B hN (PM.met (c_X5_bit l (D := D) (cI := cI) (cL := cL) (cZ := cZ) 0 (by omega))) (gPp.pre (av := [.int (0 : Int32)]) (wc := []) hK hN [] rfl (by decide)) gX0_foundAloneBy_X5_bit_n37 (List.mem_of_getElem? (i := 4) rfl) (List.mem_of_getElem? (i := 3) rfl) 4 rfl rfl kd_X5_bit ⟨by decide, by decide⟩ (st := [.long (0 : Int64), .ref ha, .long (2 : Int64)]) rfl (Nat.le_of_ble_eq_true rfl) dX0_foundAloneBy_9 ⟨by decide, by decide⟩) (fun u hu => ?_)
  obtain ⟨r_1, e9⟩ : ∃ z, z = u := ⟨_, rfl⟩; subst e9
  try dsimp only at hu ⊢
  have e1_0 := hu
  subst e1_0
  refine g_eql (y := (1 : Int64)) (by decide) ?_
  refine g_ldc2 (v := (-1 : Int64)) B dX0_foundAloneBy_12 (List.mem_of_getElem? (i := 2) rfl) ?_
  refine g_lxor (v := (-2 : Int64)) B dX0_foundAloneBy_15 (by decide) ?_
  refine g_land (v := (0 : Int64)) B dX0_foundAloneBy_16 (by decide) ?_
  refine g_callP (g_runV (q0 := 0) (ci := 0) B hK rfl rfl (PM.met (k_foundBy_0 l (D := D) (cI := cI) (cL := cL) (cZ := cZ) ha a0 a1 a2 a3 (0 : Int32) (0 : Int64) )) (gPp.pre (av := [.ref ha, .long (0 : Int64)]) (wc := [(ha, .inr (0, [.ref a0, .ref a1, .ref a2, .ref a3, .int (0 : Int32), .long (0 : Int64)]))]) hK hN [0] rfl (by decide)) gX0_foundAloneBy_X0_foundBy rfl rfl kd_X0_foundBy ⟨by decide, by decide⟩ (st := [.long (2 : Int64)]) rfl (Nat.le_of_ble_eq_true rfl) dX0_foundAloneBy_17 ⟨by decide, by decide⟩) (fun u hu => ?_)
  refine g_ldc2 (v := (-1 : Int64)) B dX0_foundAloneBy_20 (List.mem_of_getElem? (i := 2) rfl) ?_
  refine g_lxor (v := (-1 : Int64)) B dX0_foundAloneBy_23 (by decide) ?_
  refine g_land (v := (2 : Int64)) B dX0_foundAloneBy_24 (by decide) ?_
  exact g_lret_p B hr hlocks () (rfl) (trivial) dX0_foundAloneBy_25

set_option maxHeartbeats 4000000 in
set_option maxRecDepth 100000 in
theorem k_foundAloneBy_1 (l : Launch) {D : va_G} {cI cL cZ : ClassId} (ha : Nat) (a0 : Nat) (a1 : Nat) (a2 : Nat) (a3 : Nat) (fa3 : Nat → Int64)  : PM l yX0_foundAloneBy wsX0_foundAloneBy ({ frames := 1, cells := 0, slots := 0, locals := 25 } : Room) D (gTys cI cL cZ) [.ref ha, .int (0 : Int32), .long (1 : Int64)] [(ha, .inr (0, [.ref a0, .ref a1, .ref a2, .ref a3, .int (0 : Int32), .long (0 : Int64)])), (a3, .inl (cL, 41, .inr (.inl (vp_updL fa3 0 (2 : Int64)))))] (fun (_ : Unit) => True) (fun (_ : Unit) => some (.long (2 : Int64))) := by
  refine PM.ofG cX0_foundAloneBy 4 (some .long) (by decide +kernel) rfl (Nat.le_of_ble_eq_true rfl) ?_
  intro p e s m below meth c B hr hlocks hname hK hN
  refine g_aload_n B dX0_foundAloneBy_0 0 rfl ?_
  refine g_get (C := RX0) (T := TX0) (N := 6) (ci := 0) B hK hin_X0_foundAloneBy_RX0 0 rfl rfl 3 (by decide) (List.mem_of_getElem? (i := 1) rfl) rfl (v := .ref a3) rfl dX0_foundAloneBy_1 ?_
  refine g_iload_n B dX0_foundAloneBy_4 1 rfl ?_
  refine g_lald B hK 1 1 rfl rfl 0 rfl (by omega) (by omega) (v := (2 : Int64)) rfl dX0_foundAloneBy_5 ?_
  refine g_aload_n B dX0_foundAloneBy_6 0 rfl ?_
  refine g_lload_n B dX0_foundAloneBy_7 2 rfl ?_
  refine g_iload_n B dX0_foundAloneBy_8 1 rfl ?_
  refine g_callP (g_runSN B hN (PM.met (c_X5_bit l (D := D) (cI := cI) (cL := cL) (cZ := cZ) 0 (by omega))) (gPp.pre (av := [.int (0 : Int32)]) (wc := []) hK hN [] rfl (by decide)) gX0_foundAloneBy_X5_bit_n37 (List.mem_of_getElem? (i := 4) rfl) (List.mem_of_getElem? (i := 3) rfl) 4 rfl rfl kd_X5_bit ⟨by decide, by decide⟩ (st := [.long (1 : Int64), .ref ha, .long (2 : Int64)]) rfl (Nat.le_of_ble_eq_true rfl) dX0_foundAloneBy_9 ⟨by decide, by decide⟩) (fun u hu => ?_)
  obtain ⟨r_1, e9⟩ : ∃ z, z = u := ⟨_, rfl⟩; subst e9
  try dsimp only at hu ⊢
  have e1_0 := hu
  subst e1_0
  refine g_eql (y := (1 : Int64)) (by decide) ?_
  refine g_ldc2 (v := (-1 : Int64)) B dX0_foundAloneBy_12 (List.mem_of_getElem? (i := 2) rfl) ?_
  refine g_lxor (v := (-2 : Int64)) B dX0_foundAloneBy_15 (by decide) ?_
  refine g_land (v := (0 : Int64)) B dX0_foundAloneBy_16 (by decide) ?_
  refine g_callP (g_runV (q0 := 0) (ci := 0) B hK rfl rfl (PM.met (k_foundBy_0 l (D := D) (cI := cI) (cL := cL) (cZ := cZ) ha a0 a1 a2 a3 (0 : Int32) (0 : Int64) )) (gPp.pre (av := [.ref ha, .long (0 : Int64)]) (wc := [(ha, .inr (0, [.ref a0, .ref a1, .ref a2, .ref a3, .int (0 : Int32), .long (0 : Int64)]))]) hK hN [0] rfl (by decide)) gX0_foundAloneBy_X0_foundBy rfl rfl kd_X0_foundBy ⟨by decide, by decide⟩ (st := [.long (2 : Int64)]) rfl (Nat.le_of_ble_eq_true rfl) dX0_foundAloneBy_17 ⟨by decide, by decide⟩) (fun u hu => ?_)
  refine g_ldc2 (v := (-1 : Int64)) B dX0_foundAloneBy_20 (List.mem_of_getElem? (i := 2) rfl) ?_
  refine g_lxor (v := (-1 : Int64)) B dX0_foundAloneBy_23 (by decide) ?_
  refine g_land (v := (2 : Int64)) B dX0_foundAloneBy_24 (by decide) ?_
  exact g_lret_p B hr hlocks () (rfl) (trivial) dX0_foundAloneBy_25

set_option maxHeartbeats 4000000 in
set_option maxRecDepth 100000 in
theorem k_neededOf_0 (l : Launch) {D : va_G} {cI cL cZ : ClassId} (ha : Nat) (a0 : Nat) (a1 : Nat) (a2 : Nat) (a3 : Nat)  : PM l yX0_neededOf wsX0_neededOf ({ frames := 1, cells := 0, slots := 0, locals := 22 } : Room) D (gTys cI cL cZ) [.ref ha, .long (0 : Int64)] [(ha, .inr (0, [.ref a0, .ref a1, .ref a2, .ref a3, .int (0 : Int32), .long (0 : Int64)]))] (fun (_ : Unit) => True) (fun (_ : Unit) => some (.long (0 : Int64))) := by
  refine PM.ofG cX0_neededOf 6 (some .long) (by decide +kernel) rfl (Nat.le_of_ble_eq_true rfl) ?_
  intro p e s m below meth c B hr hlocks hname hK hN
  refine g_lload_n B dX0_neededOf_0 1 rfl ?_
  refine g_lstore_n (lv' := [(0, .ref ha), (1, .long (0 : Int64)), (3, .long (0 : Int64))]) B dX0_neededOf_1 rfl (by decide) [1, 2, 0] rfl ?_
  refine g_iconst (v := (0 : Int32)) B dX0_neededOf_2 (by decide) ?_
  refine g_istore (lv' := [(0, .ref ha), (1, .long (0 : Int64)), (3, .long (0 : Int64)), (5, .int (0 : Int32))]) B dX0_neededOf_3 (by decide) [1, 2, 3, 0] rfl ?_
  refine g_loop (σ := Nat) (fun x9 => x9 ≤ 41) (fun x9 => 42 - x9) (fun x9 => 0) (fun x9 => 0) (fun x9 => [(ha, .inr (0, [.ref a0, .ref a1, .ref a2, .ref a3, .int (0 : Int32), .long (0 : Int64)]))]) (fun x9 => [(0, .ref ha), (1, .long (0 : Int64)), (3, .long (0 : Int64)), (5, .int (nI x9))]) (fun x9 hI ih5 => ?_) 0 (by (try dsimp only); omega) rfl rfl rfl rfl
  obtain ⟨k, e9⟩ : ∃ z, z = x9 := ⟨_, rfl⟩; subst e9
  try dsimp only at hI ih5 ⊢
  refine g_iload B dX0_neededOf_5 3 rfl ?_
  refine g_bipush (v := (41 : Int32)) B dX0_neededOf_7 (by decide) ?_
  refine g_ncmp_ge (tgt := 51) B k 41 rfl rfl (by omega) (by omega) dX0_neededOf_9 (by decide) (fun c1 => ?_) (fun c1 => ?_)
  · refine g_lload_n B dX0_neededOf_51 2 rfl ?_
    exact g_lret_p B hr hlocks () (rfl) (trivial) dX0_neededOf_52
  · refine g_lload_n B dX0_neededOf_12 2 rfl ?_
    refine g_iload B dX0_neededOf_13 3 rfl ?_
    refine g_callP (g_runSN B hN (PM.met (c_X5_contains l (D := D) (cI := cI) (cL := cL) (cZ := cZ) (0 : Int64) k (by omega))) (gPp.pre (av := [.long (0 : Int64), .int (nI k)]) (wc := []) hK hN [] rfl (by decide)) gX0_neededOf_X5_contains_n29 (List.mem_of_getElem? (i := 3) rfl) (List.mem_of_getElem? (i := 2) rfl) 3 rfl rfl kd_X5_contains ⟨by decide, by decide⟩ (st := []) rfl (Nat.le_of_ble_eq_true rfl) dX0_neededOf_15 ⟨by decide, by decide⟩) (fun u hu => ?_)
    obtain ⟨r_2, e9⟩ : ∃ z, z = u := ⟨_, rfl⟩; subst e9
    try dsimp only at hu ⊢
    have e2_0 := hu
    subst e2_0
    refine g_eqi (y := (0 : Int32)) (by rw [hasB_0]; rfl) ?_
    refine g_if_eq (tgt := 45) B dX0_neededOf_18 (by decide) (fun _ => ?_) (fun c3 => absurd (by decide) c3)
    refine g_iinc (lv' := [(0, .ref ha), (1, .long (0 : Int64)), (3, .long (0 : Int64)), (5, .int (nI (k + 1)))]) B dX0_neededOf_45 3 rfl (nI_1 k) (by decide) [1, 2, 3, 0] rfl ?_
    refine g_goto (tgt := 5) B dX0_neededOf_48 (by decide) ?_
    exact ih5 (k + 1) (by (try dsimp only); omega) (by (try dsimp only); omega)

set_option maxHeartbeats 4000000 in
set_option maxRecDepth 100000 in
theorem k_neededOf_1 (l : Launch) {D : va_G} {cI cL cZ : ClassId} (ha : Nat) (a0 : Nat) (a1 : Nat) (a2 : Nat) (a3 : Nat) (fa3 : Nat → Int64)  : PM l yX0_neededOf wsX0_neededOf ({ frames := 2, cells := 0, slots := 0, locals := 48 } : Room) D (gTys cI cL cZ) [.ref ha, .long (1 : Int64)] [(ha, .inr (0, [.ref a0, .ref a1, .ref a2, .ref a3, .int (0 : Int32), .long (0 : Int64)])), (a3, .inl (cL, 41, .inr (.inl (vp_updL fa3 0 (2 : Int64)))))] (fun (_ : Unit) => True) (fun (_ : Unit) => some (.long (1 : Int64))) := by
  refine PM.ofG cX0_neededOf 6 (some .long) (by decide +kernel) rfl (Nat.le_of_ble_eq_true rfl) ?_
  intro p e s m below meth c B hr hlocks hname hK hN
  refine g_lload_n B dX0_neededOf_0 1 rfl ?_
  refine g_lstore_n (lv' := [(0, .ref ha), (1, .long (1 : Int64)), (3, .long (1 : Int64))]) B dX0_neededOf_1 rfl (by decide) [1, 2, 0] rfl ?_
  refine g_iconst (v := (0 : Int32)) B dX0_neededOf_2 (by decide) ?_
  refine g_istore (lv' := [(0, .ref ha), (1, .long (1 : Int64)), (3, .long (1 : Int64)), (5, .int (0 : Int32))]) B dX0_neededOf_3 (by decide) [1, 2, 3, 0] rfl ?_
  refine g_iload B dX0_neededOf_5 3 rfl ?_
  refine g_bipush (v := (41 : Int32)) B dX0_neededOf_7 (by decide) ?_
  refine g_icmp_ge (tgt := 51) B dX0_neededOf_9 (by decide) (fun c1 => absurd c1 (by decide)) (fun _ => ?_)
  refine g_lload_n B dX0_neededOf_12 2 rfl ?_
  refine g_iload B dX0_neededOf_13 3 rfl ?_
  refine g_callP (g_runSN B hN (PM.met (c_X5_contains l (D := D) (cI := cI) (cL := cL) (cZ := cZ) (1 : Int64) 0 (by omega))) (gPp.pre (av := [.long (1 : Int64), .int (0 : Int32)]) (wc := []) hK hN [] rfl (by decide)) gX0_neededOf_X5_contains_n29 (List.mem_of_getElem? (i := 3) rfl) (List.mem_of_getElem? (i := 2) rfl) 3 rfl rfl kd_X5_contains ⟨by decide, by decide⟩ (st := []) rfl (Nat.le_of_ble_eq_true rfl) dX0_neededOf_15 ⟨by decide, by decide⟩) (fun u hu => ?_)
  obtain ⟨r_2, e9⟩ : ∃ z, z = u := ⟨_, rfl⟩; subst e9
  try dsimp only at hu ⊢
  have e2_0 := hu
  subst e2_0
  refine g_eqi (y := (1 : Int32)) (by decide) ?_
  refine g_if_eq (tgt := 45) B dX0_neededOf_18 (by decide) (fun c3 => absurd c3 (by decide)) (fun _ => ?_)
  refine g_aload_n B dX0_neededOf_21 0 rfl ?_
  refine g_iload B dX0_neededOf_22 3 rfl ?_
  refine g_lload_n B dX0_neededOf_24 2 rfl ?_
  refine g_callP (g_runV (q0 := 0) (ci := 0) B hK rfl rfl (PM.met (k_foundAloneBy_1 l (D := D) (cI := cI) (cL := cL) (cZ := cZ) ha a0 a1 a2 a3 fa3 )) (gPp.pre (av := [.ref ha, .int (0 : Int32), .long (1 : Int64)]) (wc := [(ha, .inr (0, [.ref a0, .ref a1, .ref a2, .ref a3, .int (0 : Int32), .long (0 : Int64)])), (a3, .inl (cL, 41, .inr (.inl (vp_updL fa3 0 (2 : Int64)))))]) hK hN [0, 1] rfl (by decide)) gX0_neededOf_X0_foundAloneBy rfl rfl kd_X0_foundAloneBy ⟨by decide, by decide⟩ (st := []) rfl (Nat.le_of_ble_eq_true rfl) dX0_neededOf_25 ⟨by decide, by decide⟩) (fun u hu => ?_)
  refine g_lconst (v := (0 : Int64)) B dX0_neededOf_28 rfl ?_
  refine g_lcmp (v := (1 : Int32)) B dX0_neededOf_29 (by decide) ?_
  refine g_if_ne (tgt := 45) B dX0_neededOf_30 (by decide) (fun _ => ?_) (fun c5 => absurd c5 (by decide))
  refine g_iinc (lv' := [(0, .ref ha), (1, .long (1 : Int64)), (3, .long (1 : Int64)), (5, .int (1 : Int32))]) B dX0_neededOf_45 3 rfl (by decide) (by decide) [1, 2, 3, 0] rfl ?_
  refine g_goto (tgt := 5) B dX0_neededOf_48 (by decide) ?_
  refine g_iload B dX0_neededOf_5 3 rfl ?_
  refine g_bipush (v := (41 : Int32)) B dX0_neededOf_7 (by decide) ?_
  refine g_icmp_ge (tgt := 51) B dX0_neededOf_9 (by decide) (fun c6 => absurd c6 (by decide)) (fun _ => ?_)
  refine g_lload_n B dX0_neededOf_12 2 rfl ?_
  refine g_iload B dX0_neededOf_13 3 rfl ?_
  refine g_callP (g_runSN B hN (PM.met (c_X5_contains l (D := D) (cI := cI) (cL := cL) (cZ := cZ) (1 : Int64) 1 (by omega))) (gPp.pre (av := [.long (1 : Int64), .int (1 : Int32)]) (wc := []) hK hN [] rfl (by decide)) gX0_neededOf_X5_contains_n29 (List.mem_of_getElem? (i := 3) rfl) (List.mem_of_getElem? (i := 2) rfl) 3 rfl rfl kd_X5_contains ⟨by decide, by decide⟩ (st := []) rfl (Nat.le_of_ble_eq_true rfl) dX0_neededOf_15 ⟨by decide, by decide⟩) (fun u hu => ?_)
  obtain ⟨r_7, e9⟩ : ∃ z, z = u := ⟨_, rfl⟩; subst e9
  try dsimp only at hu ⊢
  have e7_0 := hu
  subst e7_0
  refine g_eqi (y := (0 : Int32)) (by decide) ?_
  refine g_if_eq (tgt := 45) B dX0_neededOf_18 (by decide) (fun _ => ?_) (fun c8 => absurd (by decide) c8)
  refine g_iinc (lv' := [(0, .ref ha), (1, .long (1 : Int64)), (3, .long (1 : Int64)), (5, .int (2 : Int32))]) B dX0_neededOf_45 3 rfl (by decide) (by decide) [1, 2, 3, 0] rfl ?_
  refine g_goto (tgt := 5) B dX0_neededOf_48 (by decide) ?_
  refine g_iload B dX0_neededOf_5 3 rfl ?_
  refine g_bipush (v := (41 : Int32)) B dX0_neededOf_7 (by decide) ?_
  refine g_icmp_ge (tgt := 51) B dX0_neededOf_9 (by decide) (fun c9 => absurd c9 (by decide)) (fun _ => ?_)
  refine g_lload_n B dX0_neededOf_12 2 rfl ?_
  refine g_iload B dX0_neededOf_13 3 rfl ?_
  refine g_callP (g_runSN B hN (PM.met (c_X5_contains l (D := D) (cI := cI) (cL := cL) (cZ := cZ) (1 : Int64) 2 (by omega))) (gPp.pre (av := [.long (1 : Int64), .int (2 : Int32)]) (wc := []) hK hN [] rfl (by decide)) gX0_neededOf_X5_contains_n29 (List.mem_of_getElem? (i := 3) rfl) (List.mem_of_getElem? (i := 2) rfl) 3 rfl rfl kd_X5_contains ⟨by decide, by decide⟩ (st := []) rfl (Nat.le_of_ble_eq_true rfl) dX0_neededOf_15 ⟨by decide, by decide⟩) (fun u hu => ?_)
  obtain ⟨r_10, e9⟩ : ∃ z, z = u := ⟨_, rfl⟩; subst e9
  try dsimp only at hu ⊢
  have e10_0 := hu
  subst e10_0
  refine g_eqi (y := (0 : Int32)) (by decide) ?_
  refine g_if_eq (tgt := 45) B dX0_neededOf_18 (by decide) (fun _ => ?_) (fun c11 => absurd (by decide) c11)
  refine g_iinc (lv' := [(0, .ref ha), (1, .long (1 : Int64)), (3, .long (1 : Int64)), (5, .int (3 : Int32))]) B dX0_neededOf_45 3 rfl (by decide) (by decide) [1, 2, 3, 0] rfl ?_
  refine g_goto (tgt := 5) B dX0_neededOf_48 (by decide) ?_
  refine g_iload B dX0_neededOf_5 3 rfl ?_
  refine g_bipush (v := (41 : Int32)) B dX0_neededOf_7 (by decide) ?_
  refine g_icmp_ge (tgt := 51) B dX0_neededOf_9 (by decide) (fun c12 => absurd c12 (by decide)) (fun _ => ?_)
  refine g_lload_n B dX0_neededOf_12 2 rfl ?_
  refine g_iload B dX0_neededOf_13 3 rfl ?_
  refine g_callP (g_runSN B hN (PM.met (c_X5_contains l (D := D) (cI := cI) (cL := cL) (cZ := cZ) (1 : Int64) 3 (by omega))) (gPp.pre (av := [.long (1 : Int64), .int (3 : Int32)]) (wc := []) hK hN [] rfl (by decide)) gX0_neededOf_X5_contains_n29 (List.mem_of_getElem? (i := 3) rfl) (List.mem_of_getElem? (i := 2) rfl) 3 rfl rfl kd_X5_contains ⟨by decide, by decide⟩ (st := []) rfl (Nat.le_of_ble_eq_true rfl) dX0_neededOf_15 ⟨by decide, by decide⟩) (fun u hu => ?_)
  obtain ⟨r_13, e9⟩ : ∃ z, z = u := ⟨_, rfl⟩; subst e9
  try dsimp only at hu ⊢
  have e13_0 := hu
  subst e13_0
  refine g_eqi (y := (0 : Int32)) (by decide) ?_
  refine g_if_eq (tgt := 45) B dX0_neededOf_18 (by decide) (fun _ => ?_) (fun c14 => absurd (by decide) c14)
  refine g_iinc (lv' := [(0, .ref ha), (1, .long (1 : Int64)), (3, .long (1 : Int64)), (5, .int (4 : Int32))]) B dX0_neededOf_45 3 rfl (by decide) (by decide) [1, 2, 3, 0] rfl ?_
  refine g_goto (tgt := 5) B dX0_neededOf_48 (by decide) ?_
  refine g_iload B dX0_neededOf_5 3 rfl ?_
  refine g_bipush (v := (41 : Int32)) B dX0_neededOf_7 (by decide) ?_
  refine g_icmp_ge (tgt := 51) B dX0_neededOf_9 (by decide) (fun c15 => absurd c15 (by decide)) (fun _ => ?_)
  refine g_lload_n B dX0_neededOf_12 2 rfl ?_
  refine g_iload B dX0_neededOf_13 3 rfl ?_
  refine g_callP (g_runSN B hN (PM.met (c_X5_contains l (D := D) (cI := cI) (cL := cL) (cZ := cZ) (1 : Int64) 4 (by omega))) (gPp.pre (av := [.long (1 : Int64), .int (4 : Int32)]) (wc := []) hK hN [] rfl (by decide)) gX0_neededOf_X5_contains_n29 (List.mem_of_getElem? (i := 3) rfl) (List.mem_of_getElem? (i := 2) rfl) 3 rfl rfl kd_X5_contains ⟨by decide, by decide⟩ (st := []) rfl (Nat.le_of_ble_eq_true rfl) dX0_neededOf_15 ⟨by decide, by decide⟩) (fun u hu => ?_)
  obtain ⟨r_16, e9⟩ : ∃ z, z = u := ⟨_, rfl⟩; subst e9
  try dsimp only at hu ⊢
  have e16_0 := hu
  subst e16_0
  refine g_eqi (y := (0 : Int32)) (by decide) ?_
  refine g_if_eq (tgt := 45) B dX0_neededOf_18 (by decide) (fun _ => ?_) (fun c17 => absurd (by decide) c17)
  refine g_iinc (lv' := [(0, .ref ha), (1, .long (1 : Int64)), (3, .long (1 : Int64)), (5, .int (5 : Int32))]) B dX0_neededOf_45 3 rfl (by decide) (by decide) [1, 2, 3, 0] rfl ?_
  refine g_goto (tgt := 5) B dX0_neededOf_48 (by decide) ?_
  refine g_iload B dX0_neededOf_5 3 rfl ?_
  refine g_bipush (v := (41 : Int32)) B dX0_neededOf_7 (by decide) ?_
  refine g_icmp_ge (tgt := 51) B dX0_neededOf_9 (by decide) (fun c18 => absurd c18 (by decide)) (fun _ => ?_)
  refine g_lload_n B dX0_neededOf_12 2 rfl ?_
  refine g_iload B dX0_neededOf_13 3 rfl ?_
  refine g_callP (g_runSN B hN (PM.met (c_X5_contains l (D := D) (cI := cI) (cL := cL) (cZ := cZ) (1 : Int64) 5 (by omega))) (gPp.pre (av := [.long (1 : Int64), .int (5 : Int32)]) (wc := []) hK hN [] rfl (by decide)) gX0_neededOf_X5_contains_n29 (List.mem_of_getElem? (i := 3) rfl) (List.mem_of_getElem? (i := 2) rfl) 3 rfl rfl kd_X5_contains ⟨by decide, by decide⟩ (st := []) rfl (Nat.le_of_ble_eq_true rfl) dX0_neededOf_15 ⟨by decide, by decide⟩) (fun u hu => ?_)
  obtain ⟨r_19, e9⟩ : ∃ z, z = u := ⟨_, rfl⟩; subst e9
  try dsimp only at hu ⊢
  have e19_0 := hu
  subst e19_0
  refine g_eqi (y := (0 : Int32)) (by decide) ?_
  refine g_if_eq (tgt := 45) B dX0_neededOf_18 (by decide) (fun _ => ?_) (fun c20 => absurd (by decide) c20)
  refine g_iinc (lv' := [(0, .ref ha), (1, .long (1 : Int64)), (3, .long (1 : Int64)), (5, .int (6 : Int32))]) B dX0_neededOf_45 3 rfl (by decide) (by decide) [1, 2, 3, 0] rfl ?_
  refine g_goto (tgt := 5) B dX0_neededOf_48 (by decide) ?_
  refine g_iload B dX0_neededOf_5 3 rfl ?_
  refine g_bipush (v := (41 : Int32)) B dX0_neededOf_7 (by decide) ?_
  refine g_icmp_ge (tgt := 51) B dX0_neededOf_9 (by decide) (fun c21 => absurd c21 (by decide)) (fun _ => ?_)
  refine g_lload_n B dX0_neededOf_12 2 rfl ?_
  refine g_iload B dX0_neededOf_13 3 rfl ?_
  refine g_callP (g_runSN B hN (PM.met (c_X5_contains l (D := D) (cI := cI) (cL := cL) (cZ := cZ) (1 : Int64) 6 (by omega))) (gPp.pre (av := [.long (1 : Int64), .int (6 : Int32)]) (wc := []) hK hN [] rfl (by decide)) gX0_neededOf_X5_contains_n29 (List.mem_of_getElem? (i := 3) rfl) (List.mem_of_getElem? (i := 2) rfl) 3 rfl rfl kd_X5_contains ⟨by decide, by decide⟩ (st := []) rfl (Nat.le_of_ble_eq_true rfl) dX0_neededOf_15 ⟨by decide, by decide⟩) (fun u hu => ?_)
  obtain ⟨r_22, e9⟩ : ∃ z, z = u := ⟨_, rfl⟩; subst e9
  try dsimp only at hu ⊢
  have e22_0 := hu
  subst e22_0
  refine g_eqi (y := (0 : Int32)) (by decide) ?_
  refine g_if_eq (tgt := 45) B dX0_neededOf_18 (by decide) (fun _ => ?_) (fun c23 => absurd (by decide) c23)
  refine g_iinc (lv' := [(0, .ref ha), (1, .long (1 : Int64)), (3, .long (1 : Int64)), (5, .int (7 : Int32))]) B dX0_neededOf_45 3 rfl (by decide) (by decide) [1, 2, 3, 0] rfl ?_
  refine g_goto (tgt := 5) B dX0_neededOf_48 (by decide) ?_
  refine g_iload B dX0_neededOf_5 3 rfl ?_
  refine g_bipush (v := (41 : Int32)) B dX0_neededOf_7 (by decide) ?_
  refine g_icmp_ge (tgt := 51) B dX0_neededOf_9 (by decide) (fun c24 => absurd c24 (by decide)) (fun _ => ?_)
  refine g_lload_n B dX0_neededOf_12 2 rfl ?_
  refine g_iload B dX0_neededOf_13 3 rfl ?_
  refine g_callP (g_runSN B hN (PM.met (c_X5_contains l (D := D) (cI := cI) (cL := cL) (cZ := cZ) (1 : Int64) 7 (by omega))) (gPp.pre (av := [.long (1 : Int64), .int (7 : Int32)]) (wc := []) hK hN [] rfl (by decide)) gX0_neededOf_X5_contains_n29 (List.mem_of_getElem? (i := 3) rfl) (List.mem_of_getElem? (i := 2) rfl) 3 rfl rfl kd_X5_contains ⟨by decide, by decide⟩ (st := []) rfl (Nat.le_of_ble_eq_true rfl) dX0_neededOf_15 ⟨by decide, by decide⟩) (fun u hu => ?_)
  obtain ⟨r_25, e9⟩ : ∃ z, z = u := ⟨_, rfl⟩; subst e9
  try dsimp only at hu ⊢
  have e25_0 := hu
  subst e25_0
  refine g_eqi (y := (0 : Int32)) (by decide) ?_
  refine g_if_eq (tgt := 45) B dX0_neededOf_18 (by decide) (fun _ => ?_) (fun c26 => absurd (by decide) c26)
  refine g_iinc (lv' := [(0, .ref ha), (1, .long (1 : Int64)), (3, .long (1 : Int64)), (5, .int (8 : Int32))]) B dX0_neededOf_45 3 rfl (by decide) (by decide) [1, 2, 3, 0] rfl ?_
  refine g_goto (tgt := 5) B dX0_neededOf_48 (by decide) ?_
  refine g_iload B dX0_neededOf_5 3 rfl ?_
  refine g_bipush (v := (41 : Int32)) B dX0_neededOf_7 (by decide) ?_
  refine g_icmp_ge (tgt := 51) B dX0_neededOf_9 (by decide) (fun c27 => absurd c27 (by decide)) (fun _ => ?_)
  refine g_lload_n B dX0_neededOf_12 2 rfl ?_
  refine g_iload B dX0_neededOf_13 3 rfl ?_
  refine g_callP (g_runSN B hN (PM.met (c_X5_contains l (D := D) (cI := cI) (cL := cL) (cZ := cZ) (1 : Int64) 8 (by omega))) (gPp.pre (av := [.long (1 : Int64), .int (8 : Int32)]) (wc := []) hK hN [] rfl (by decide)) gX0_neededOf_X5_contains_n29 (List.mem_of_getElem? (i := 3) rfl) (List.mem_of_getElem? (i := 2) rfl) 3 rfl rfl kd_X5_contains ⟨by decide, by decide⟩ (st := []) rfl (Nat.le_of_ble_eq_true rfl) dX0_neededOf_15 ⟨by decide, by decide⟩) (fun u hu => ?_)
  obtain ⟨r_28, e9⟩ : ∃ z, z = u := ⟨_, rfl⟩; subst e9
  try dsimp only at hu ⊢
  have e28_0 := hu
  subst e28_0
  refine g_eqi (y := (0 : Int32)) (by decide) ?_
  refine g_if_eq (tgt := 45) B dX0_neededOf_18 (by decide) (fun _ => ?_) (fun c29 => absurd (by decide) c29)
  refine g_iinc (lv' := [(0, .ref ha), (1, .long (1 : Int64)), (3, .long (1 : Int64)), (5, .int (9 : Int32))]) B dX0_neededOf_45 3 rfl (by decide) (by decide) [1, 2, 3, 0] rfl ?_
  refine g_goto (tgt := 5) B dX0_neededOf_48 (by decide) ?_
  refine g_iload B dX0_neededOf_5 3 rfl ?_
  refine g_bipush (v := (41 : Int32)) B dX0_neededOf_7 (by decide) ?_
  refine g_icmp_ge (tgt := 51) B dX0_neededOf_9 (by decide) (fun c30 => absurd c30 (by decide)) (fun _ => ?_)
  refine g_lload_n B dX0_neededOf_12 2 rfl ?_
  refine g_iload B dX0_neededOf_13 3 rfl ?_
  refine g_callP (g_runSN B hN (PM.met (c_X5_contains l (D := D) (cI := cI) (cL := cL) (cZ := cZ) (1 : Int64) 9 (by omega))) (gPp.pre (av := [.long (1 : Int64), .int (9 : Int32)]) (wc := []) hK hN [] rfl (by decide)) gX0_neededOf_X5_contains_n29 (List.mem_of_getElem? (i := 3) rfl) (List.mem_of_getElem? (i := 2) rfl) 3 rfl rfl kd_X5_contains ⟨by decide, by decide⟩ (st := []) rfl (Nat.le_of_ble_eq_true rfl) dX0_neededOf_15 ⟨by decide, by decide⟩) (fun u hu => ?_)
  obtain ⟨r_31, e9⟩ : ∃ z, z = u := ⟨_, rfl⟩; subst e9
  try dsimp only at hu ⊢
  have e31_0 := hu
  subst e31_0
  refine g_eqi (y := (0 : Int32)) (by decide) ?_
  refine g_if_eq (tgt := 45) B dX0_neededOf_18 (by decide) (fun _ => ?_) (fun c32 => absurd (by decide) c32)
  refine g_iinc (lv' := [(0, .ref ha), (1, .long (1 : Int64)), (3, .long (1 : Int64)), (5, .int (10 : Int32))]) B dX0_neededOf_45 3 rfl (by decide) (by decide) [1, 2, 3, 0] rfl ?_
  refine g_goto (tgt := 5) B dX0_neededOf_48 (by decide) ?_
  refine g_iload B dX0_neededOf_5 3 rfl ?_
  refine g_bipush (v := (41 : Int32)) B dX0_neededOf_7 (by decide) ?_
  refine g_icmp_ge (tgt := 51) B dX0_neededOf_9 (by decide) (fun c33 => absurd c33 (by decide)) (fun _ => ?_)
  refine g_lload_n B dX0_neededOf_12 2 rfl ?_
  refine g_iload B dX0_neededOf_13 3 rfl ?_
  refine g_callP (g_runSN B hN (PM.met (c_X5_contains l (D := D) (cI := cI) (cL := cL) (cZ := cZ) (1 : Int64) 10 (by omega))) (gPp.pre (av := [.long (1 : Int64), .int (10 : Int32)]) (wc := []) hK hN [] rfl (by decide)) gX0_neededOf_X5_contains_n29 (List.mem_of_getElem? (i := 3) rfl) (List.mem_of_getElem? (i := 2) rfl) 3 rfl rfl kd_X5_contains ⟨by decide, by decide⟩ (st := []) rfl (Nat.le_of_ble_eq_true rfl) dX0_neededOf_15 ⟨by decide, by decide⟩) (fun u hu => ?_)
  obtain ⟨r_34, e9⟩ : ∃ z, z = u := ⟨_, rfl⟩; subst e9
  try dsimp only at hu ⊢
  have e34_0 := hu
  subst e34_0
  refine g_eqi (y := (0 : Int32)) (by decide) ?_
  refine g_if_eq (tgt := 45) B dX0_neededOf_18 (by decide) (fun _ => ?_) (fun c35 => absurd (by decide) c35)
  refine g_iinc (lv' := [(0, .ref ha), (1, .long (1 : Int64)), (3, .long (1 : Int64)), (5, .int (11 : Int32))]) B dX0_neededOf_45 3 rfl (by decide) (by decide) [1, 2, 3, 0] rfl ?_
  refine g_goto (tgt := 5) B dX0_neededOf_48 (by decide) ?_
  refine g_iload B dX0_neededOf_5 3 rfl ?_
  refine g_bipush (v := (41 : Int32)) B dX0_neededOf_7 (by decide) ?_
  refine g_icmp_ge (tgt := 51) B dX0_neededOf_9 (by decide) (fun c36 => absurd c36 (by decide)) (fun _ => ?_)
  refine g_lload_n B dX0_neededOf_12 2 rfl ?_
  refine g_iload B dX0_neededOf_13 3 rfl ?_
  refine g_callP (g_runSN B hN (PM.met (c_X5_contains l (D := D) (cI := cI) (cL := cL) (cZ := cZ) (1 : Int64) 11 (by omega))) (gPp.pre (av := [.long (1 : Int64), .int (11 : Int32)]) (wc := []) hK hN [] rfl (by decide)) gX0_neededOf_X5_contains_n29 (List.mem_of_getElem? (i := 3) rfl) (List.mem_of_getElem? (i := 2) rfl) 3 rfl rfl kd_X5_contains ⟨by decide, by decide⟩ (st := []) rfl (Nat.le_of_ble_eq_true rfl) dX0_neededOf_15 ⟨by decide, by decide⟩) (fun u hu => ?_)
  obtain ⟨r_37, e9⟩ : ∃ z, z = u := ⟨_, rfl⟩; subst e9
  try dsimp only at hu ⊢
  have e37_0 := hu
  subst e37_0
  refine g_eqi (y := (0 : Int32)) (by decide) ?_
  refine g_if_eq (tgt := 45) B dX0_neededOf_18 (by decide) (fun _ => ?_) (fun c38 => absurd (by decide) c38)
  refine g_iinc (lv' := [(0, .ref ha), (1, .long (1 : Int64)), (3, .long (1 : Int64)), (5, .int (12 : Int32))]) B dX0_neededOf_45 3 rfl (by decide) (by decide) [1, 2, 3, 0] rfl ?_
  refine g_goto (tgt := 5) B dX0_neededOf_48 (by decide) ?_
  refine g_iload B dX0_neededOf_5 3 rfl ?_
  refine g_bipush (v := (41 : Int32)) B dX0_neededOf_7 (by decide) ?_
  refine g_icmp_ge (tgt := 51) B dX0_neededOf_9 (by decide) (fun c39 => absurd c39 (by decide)) (fun _ => ?_)
  refine g_lload_n B dX0_neededOf_12 2 rfl ?_
  refine g_iload B dX0_neededOf_13 3 rfl ?_
  refine g_callP (g_runSN B hN (PM.met (c_X5_contains l (D := D) (cI := cI) (cL := cL) (cZ := cZ) (1 : Int64) 12 (by omega))) (gPp.pre (av := [.long (1 : Int64), .int (12 : Int32)]) (wc := []) hK hN [] rfl (by decide)) gX0_neededOf_X5_contains_n29 (List.mem_of_getElem? (i := 3) rfl) (List.mem_of_getElem? (i := 2) rfl) 3 rfl rfl kd_X5_contains ⟨by decide, by decide⟩ (st := []) rfl (Nat.le_of_ble_eq_true rfl) dX0_neededOf_15 ⟨by decide, by decide⟩) (fun u hu => ?_)
  obtain ⟨r_40, e9⟩ : ∃ z, z = u := ⟨_, rfl⟩; subst e9
  try dsimp only at hu ⊢
  have e40_0 := hu
  subst e40_0
  refine g_eqi (y := (0 : Int32)) (by decide) ?_
  refine g_if_eq (tgt := 45) B dX0_neededOf_18 (by decide) (fun _ => ?_) (fun c41 => absurd (by decide) c41)
  refine g_iinc (lv' := [(0, .ref ha), (1, .long (1 : Int64)), (3, .long (1 : Int64)), (5, .int (13 : Int32))]) B dX0_neededOf_45 3 rfl (by decide) (by decide) [1, 2, 3, 0] rfl ?_
  refine g_goto (tgt := 5) B dX0_neededOf_48 (by decide) ?_
  refine g_iload B dX0_neededOf_5 3 rfl ?_
  refine g_bipush (v := (41 : Int32)) B dX0_neededOf_7 (by decide) ?_
  refine g_icmp_ge (tgt := 51) B dX0_neededOf_9 (by decide) (fun c42 => absurd c42 (by decide)) (fun _ => ?_)
  refine g_lload_n B dX0_neededOf_12 2 rfl ?_
  refine g_iload B dX0_neededOf_13 3 rfl ?_
  refine g_callP (g_runSN B hN (PM.met (c_X5_contains l (D := D) (cI := cI) (cL := cL) (cZ := cZ) (1 : Int64) 13 (by omega))) (gPp.pre (av := [.long (1 : Int64), .int (13 : Int32)]) (wc := []) hK hN [] rfl (by decide)) gX0_neededOf_X5_contains_n29 (List.mem_of_getElem? (i := 3) rfl) (List.mem_of_getElem? (i := 2) rfl) 3 rfl rfl kd_X5_contains ⟨by decide, by decide⟩ (st := []) rfl (Nat.le_of_ble_eq_true rfl) dX0_neededOf_15 ⟨by decide, by decide⟩) (fun u hu => ?_)
  obtain ⟨r_43, e9⟩ : ∃ z, z = u := ⟨_, rfl⟩; subst e9
  try dsimp only at hu ⊢
  have e43_0 := hu
  subst e43_0
  refine g_eqi (y := (0 : Int32)) (by decide) ?_
  refine g_if_eq (tgt := 45) B dX0_neededOf_18 (by decide) (fun _ => ?_) (fun c44 => absurd (by decide) c44)
  refine g_iinc (lv' := [(0, .ref ha), (1, .long (1 : Int64)), (3, .long (1 : Int64)), (5, .int (14 : Int32))]) B dX0_neededOf_45 3 rfl (by decide) (by decide) [1, 2, 3, 0] rfl ?_
  refine g_goto (tgt := 5) B dX0_neededOf_48 (by decide) ?_
  refine g_iload B dX0_neededOf_5 3 rfl ?_
  refine g_bipush (v := (41 : Int32)) B dX0_neededOf_7 (by decide) ?_
  refine g_icmp_ge (tgt := 51) B dX0_neededOf_9 (by decide) (fun c45 => absurd c45 (by decide)) (fun _ => ?_)
  refine g_lload_n B dX0_neededOf_12 2 rfl ?_
  refine g_iload B dX0_neededOf_13 3 rfl ?_
  refine g_callP (g_runSN B hN (PM.met (c_X5_contains l (D := D) (cI := cI) (cL := cL) (cZ := cZ) (1 : Int64) 14 (by omega))) (gPp.pre (av := [.long (1 : Int64), .int (14 : Int32)]) (wc := []) hK hN [] rfl (by decide)) gX0_neededOf_X5_contains_n29 (List.mem_of_getElem? (i := 3) rfl) (List.mem_of_getElem? (i := 2) rfl) 3 rfl rfl kd_X5_contains ⟨by decide, by decide⟩ (st := []) rfl (Nat.le_of_ble_eq_true rfl) dX0_neededOf_15 ⟨by decide, by decide⟩) (fun u hu => ?_)
  obtain ⟨r_46, e9⟩ : ∃ z, z = u := ⟨_, rfl⟩; subst e9
  try dsimp only at hu ⊢
  have e46_0 := hu
  subst e46_0
  refine g_eqi (y := (0 : Int32)) (by decide) ?_
  refine g_if_eq (tgt := 45) B dX0_neededOf_18 (by decide) (fun _ => ?_) (fun c47 => absurd (by decide) c47)
  refine g_iinc (lv' := [(0, .ref ha), (1, .long (1 : Int64)), (3, .long (1 : Int64)), (5, .int (15 : Int32))]) B dX0_neededOf_45 3 rfl (by decide) (by decide) [1, 2, 3, 0] rfl ?_
  refine g_goto (tgt := 5) B dX0_neededOf_48 (by decide) ?_
  refine g_iload B dX0_neededOf_5 3 rfl ?_
  refine g_bipush (v := (41 : Int32)) B dX0_neededOf_7 (by decide) ?_
  refine g_icmp_ge (tgt := 51) B dX0_neededOf_9 (by decide) (fun c48 => absurd c48 (by decide)) (fun _ => ?_)
  refine g_lload_n B dX0_neededOf_12 2 rfl ?_
  refine g_iload B dX0_neededOf_13 3 rfl ?_
  refine g_callP (g_runSN B hN (PM.met (c_X5_contains l (D := D) (cI := cI) (cL := cL) (cZ := cZ) (1 : Int64) 15 (by omega))) (gPp.pre (av := [.long (1 : Int64), .int (15 : Int32)]) (wc := []) hK hN [] rfl (by decide)) gX0_neededOf_X5_contains_n29 (List.mem_of_getElem? (i := 3) rfl) (List.mem_of_getElem? (i := 2) rfl) 3 rfl rfl kd_X5_contains ⟨by decide, by decide⟩ (st := []) rfl (Nat.le_of_ble_eq_true rfl) dX0_neededOf_15 ⟨by decide, by decide⟩) (fun u hu => ?_)
  obtain ⟨r_49, e9⟩ : ∃ z, z = u := ⟨_, rfl⟩; subst e9
  try dsimp only at hu ⊢
  have e49_0 := hu
  subst e49_0
  refine g_eqi (y := (0 : Int32)) (by decide) ?_
  refine g_if_eq (tgt := 45) B dX0_neededOf_18 (by decide) (fun _ => ?_) (fun c50 => absurd (by decide) c50)
  refine g_iinc (lv' := [(0, .ref ha), (1, .long (1 : Int64)), (3, .long (1 : Int64)), (5, .int (16 : Int32))]) B dX0_neededOf_45 3 rfl (by decide) (by decide) [1, 2, 3, 0] rfl ?_
  refine g_goto (tgt := 5) B dX0_neededOf_48 (by decide) ?_
  refine g_iload B dX0_neededOf_5 3 rfl ?_
  refine g_bipush (v := (41 : Int32)) B dX0_neededOf_7 (by decide) ?_
  refine g_icmp_ge (tgt := 51) B dX0_neededOf_9 (by decide) (fun c51 => absurd c51 (by decide)) (fun _ => ?_)
  refine g_lload_n B dX0_neededOf_12 2 rfl ?_
  refine g_iload B dX0_neededOf_13 3 rfl ?_
  refine g_callP (g_runSN B hN (PM.met (c_X5_contains l (D := D) (cI := cI) (cL := cL) (cZ := cZ) (1 : Int64) 16 (by omega))) (gPp.pre (av := [.long (1 : Int64), .int (16 : Int32)]) (wc := []) hK hN [] rfl (by decide)) gX0_neededOf_X5_contains_n29 (List.mem_of_getElem? (i := 3) rfl) (List.mem_of_getElem? (i := 2) rfl) 3 rfl rfl kd_X5_contains ⟨by decide, by decide⟩ (st := []) rfl (Nat.le_of_ble_eq_true rfl) dX0_neededOf_15 ⟨by decide, by decide⟩) (fun u hu => ?_)
  obtain ⟨r_52, e9⟩ : ∃ z, z = u := ⟨_, rfl⟩; subst e9
  try dsimp only at hu ⊢
  have e52_0 := hu
  subst e52_0
  refine g_eqi (y := (0 : Int32)) (by decide) ?_
  refine g_if_eq (tgt := 45) B dX0_neededOf_18 (by decide) (fun _ => ?_) (fun c53 => absurd (by decide) c53)
  refine g_iinc (lv' := [(0, .ref ha), (1, .long (1 : Int64)), (3, .long (1 : Int64)), (5, .int (17 : Int32))]) B dX0_neededOf_45 3 rfl (by decide) (by decide) [1, 2, 3, 0] rfl ?_
  refine g_goto (tgt := 5) B dX0_neededOf_48 (by decide) ?_
  refine g_iload B dX0_neededOf_5 3 rfl ?_
  refine g_bipush (v := (41 : Int32)) B dX0_neededOf_7 (by decide) ?_
  refine g_icmp_ge (tgt := 51) B dX0_neededOf_9 (by decide) (fun c54 => absurd c54 (by decide)) (fun _ => ?_)
  refine g_lload_n B dX0_neededOf_12 2 rfl ?_
  refine g_iload B dX0_neededOf_13 3 rfl ?_
  refine g_callP (g_runSN B hN (PM.met (c_X5_contains l (D := D) (cI := cI) (cL := cL) (cZ := cZ) (1 : Int64) 17 (by omega))) (gPp.pre (av := [.long (1 : Int64), .int (17 : Int32)]) (wc := []) hK hN [] rfl (by decide)) gX0_neededOf_X5_contains_n29 (List.mem_of_getElem? (i := 3) rfl) (List.mem_of_getElem? (i := 2) rfl) 3 rfl rfl kd_X5_contains ⟨by decide, by decide⟩ (st := []) rfl (Nat.le_of_ble_eq_true rfl) dX0_neededOf_15 ⟨by decide, by decide⟩) (fun u hu => ?_)
  obtain ⟨r_55, e9⟩ : ∃ z, z = u := ⟨_, rfl⟩; subst e9
  try dsimp only at hu ⊢
  have e55_0 := hu
  subst e55_0
  refine g_eqi (y := (0 : Int32)) (by decide) ?_
  refine g_if_eq (tgt := 45) B dX0_neededOf_18 (by decide) (fun _ => ?_) (fun c56 => absurd (by decide) c56)
  refine g_iinc (lv' := [(0, .ref ha), (1, .long (1 : Int64)), (3, .long (1 : Int64)), (5, .int (18 : Int32))]) B dX0_neededOf_45 3 rfl (by decide) (by decide) [1, 2, 3, 0] rfl ?_
  refine g_goto (tgt := 5) B dX0_neededOf_48 (by decide) ?_
  refine g_iload B dX0_neededOf_5 3 rfl ?_
  refine g_bipush (v := (41 : Int32)) B dX0_neededOf_7 (by decide) ?_
  refine g_icmp_ge (tgt := 51) B dX0_neededOf_9 (by decide) (fun c57 => absurd c57 (by decide)) (fun _ => ?_)
  refine g_lload_n B dX0_neededOf_12 2 rfl ?_
  refine g_iload B dX0_neededOf_13 3 rfl ?_
  refine g_callP (g_runSN B hN (PM.met (c_X5_contains l (D := D) (cI := cI) (cL := cL) (cZ := cZ) (1 : Int64) 18 (by omega))) (gPp.pre (av := [.long (1 : Int64), .int (18 : Int32)]) (wc := []) hK hN [] rfl (by decide)) gX0_neededOf_X5_contains_n29 (List.mem_of_getElem? (i := 3) rfl) (List.mem_of_getElem? (i := 2) rfl) 3 rfl rfl kd_X5_contains ⟨by decide, by decide⟩ (st := []) rfl (Nat.le_of_ble_eq_true rfl) dX0_neededOf_15 ⟨by decide, by decide⟩) (fun u hu => ?_)
  obtain ⟨r_58, e9⟩ : ∃ z, z = u := ⟨_, rfl⟩; subst e9
  try dsimp only at hu ⊢
  have e58_0 := hu
  subst e58_0
  refine g_eqi (y := (0 : Int32)) (by decide) ?_
  refine g_if_eq (tgt := 45) B dX0_neededOf_18 (by decide) (fun _ => ?_) (fun c59 => absurd (by decide) c59)
  refine g_iinc (lv' := [(0, .ref ha), (1, .long (1 : Int64)), (3, .long (1 : Int64)), (5, .int (19 : Int32))]) B dX0_neededOf_45 3 rfl (by decide) (by decide) [1, 2, 3, 0] rfl ?_
  refine g_goto (tgt := 5) B dX0_neededOf_48 (by decide) ?_
  refine g_iload B dX0_neededOf_5 3 rfl ?_
  refine g_bipush (v := (41 : Int32)) B dX0_neededOf_7 (by decide) ?_
  refine g_icmp_ge (tgt := 51) B dX0_neededOf_9 (by decide) (fun c60 => absurd c60 (by decide)) (fun _ => ?_)
  refine g_lload_n B dX0_neededOf_12 2 rfl ?_
  refine g_iload B dX0_neededOf_13 3 rfl ?_
  refine g_callP (g_runSN B hN (PM.met (c_X5_contains l (D := D) (cI := cI) (cL := cL) (cZ := cZ) (1 : Int64) 19 (by omega))) (gPp.pre (av := [.long (1 : Int64), .int (19 : Int32)]) (wc := []) hK hN [] rfl (by decide)) gX0_neededOf_X5_contains_n29 (List.mem_of_getElem? (i := 3) rfl) (List.mem_of_getElem? (i := 2) rfl) 3 rfl rfl kd_X5_contains ⟨by decide, by decide⟩ (st := []) rfl (Nat.le_of_ble_eq_true rfl) dX0_neededOf_15 ⟨by decide, by decide⟩) (fun u hu => ?_)
  obtain ⟨r_61, e9⟩ : ∃ z, z = u := ⟨_, rfl⟩; subst e9
  try dsimp only at hu ⊢
  have e61_0 := hu
  subst e61_0
  refine g_eqi (y := (0 : Int32)) (by decide) ?_
  refine g_if_eq (tgt := 45) B dX0_neededOf_18 (by decide) (fun _ => ?_) (fun c62 => absurd (by decide) c62)
  refine g_iinc (lv' := [(0, .ref ha), (1, .long (1 : Int64)), (3, .long (1 : Int64)), (5, .int (20 : Int32))]) B dX0_neededOf_45 3 rfl (by decide) (by decide) [1, 2, 3, 0] rfl ?_
  refine g_goto (tgt := 5) B dX0_neededOf_48 (by decide) ?_
  refine g_iload B dX0_neededOf_5 3 rfl ?_
  refine g_bipush (v := (41 : Int32)) B dX0_neededOf_7 (by decide) ?_
  refine g_icmp_ge (tgt := 51) B dX0_neededOf_9 (by decide) (fun c63 => absurd c63 (by decide)) (fun _ => ?_)
  refine g_lload_n B dX0_neededOf_12 2 rfl ?_
  refine g_iload B dX0_neededOf_13 3 rfl ?_
  refine g_callP (g_runSN B hN (PM.met (c_X5_contains l (D := D) (cI := cI) (cL := cL) (cZ := cZ) (1 : Int64) 20 (by omega))) (gPp.pre (av := [.long (1 : Int64), .int (20 : Int32)]) (wc := []) hK hN [] rfl (by decide)) gX0_neededOf_X5_contains_n29 (List.mem_of_getElem? (i := 3) rfl) (List.mem_of_getElem? (i := 2) rfl) 3 rfl rfl kd_X5_contains ⟨by decide, by decide⟩ (st := []) rfl (Nat.le_of_ble_eq_true rfl) dX0_neededOf_15 ⟨by decide, by decide⟩) (fun u hu => ?_)
  obtain ⟨r_64, e9⟩ : ∃ z, z = u := ⟨_, rfl⟩; subst e9
  try dsimp only at hu ⊢
  have e64_0 := hu
  subst e64_0
  refine g_eqi (y := (0 : Int32)) (by decide) ?_
  refine g_if_eq (tgt := 45) B dX0_neededOf_18 (by decide) (fun _ => ?_) (fun c65 => absurd (by decide) c65)
  refine g_iinc (lv' := [(0, .ref ha), (1, .long (1 : Int64)), (3, .long (1 : Int64)), (5, .int (21 : Int32))]) B dX0_neededOf_45 3 rfl (by decide) (by decide) [1, 2, 3, 0] rfl ?_
  refine g_goto (tgt := 5) B dX0_neededOf_48 (by decide) ?_
  refine g_iload B dX0_neededOf_5 3 rfl ?_
  refine g_bipush (v := (41 : Int32)) B dX0_neededOf_7 (by decide) ?_
  refine g_icmp_ge (tgt := 51) B dX0_neededOf_9 (by decide) (fun c66 => absurd c66 (by decide)) (fun _ => ?_)
  refine g_lload_n B dX0_neededOf_12 2 rfl ?_
  refine g_iload B dX0_neededOf_13 3 rfl ?_
  refine g_callP (g_runSN B hN (PM.met (c_X5_contains l (D := D) (cI := cI) (cL := cL) (cZ := cZ) (1 : Int64) 21 (by omega))) (gPp.pre (av := [.long (1 : Int64), .int (21 : Int32)]) (wc := []) hK hN [] rfl (by decide)) gX0_neededOf_X5_contains_n29 (List.mem_of_getElem? (i := 3) rfl) (List.mem_of_getElem? (i := 2) rfl) 3 rfl rfl kd_X5_contains ⟨by decide, by decide⟩ (st := []) rfl (Nat.le_of_ble_eq_true rfl) dX0_neededOf_15 ⟨by decide, by decide⟩) (fun u hu => ?_)
  obtain ⟨r_67, e9⟩ : ∃ z, z = u := ⟨_, rfl⟩; subst e9
  try dsimp only at hu ⊢
  have e67_0 := hu
  subst e67_0
  refine g_eqi (y := (0 : Int32)) (by decide) ?_
  refine g_if_eq (tgt := 45) B dX0_neededOf_18 (by decide) (fun _ => ?_) (fun c68 => absurd (by decide) c68)
  refine g_iinc (lv' := [(0, .ref ha), (1, .long (1 : Int64)), (3, .long (1 : Int64)), (5, .int (22 : Int32))]) B dX0_neededOf_45 3 rfl (by decide) (by decide) [1, 2, 3, 0] rfl ?_
  refine g_goto (tgt := 5) B dX0_neededOf_48 (by decide) ?_
  refine g_iload B dX0_neededOf_5 3 rfl ?_
  refine g_bipush (v := (41 : Int32)) B dX0_neededOf_7 (by decide) ?_
  refine g_icmp_ge (tgt := 51) B dX0_neededOf_9 (by decide) (fun c69 => absurd c69 (by decide)) (fun _ => ?_)
  refine g_lload_n B dX0_neededOf_12 2 rfl ?_
  refine g_iload B dX0_neededOf_13 3 rfl ?_
  refine g_callP (g_runSN B hN (PM.met (c_X5_contains l (D := D) (cI := cI) (cL := cL) (cZ := cZ) (1 : Int64) 22 (by omega))) (gPp.pre (av := [.long (1 : Int64), .int (22 : Int32)]) (wc := []) hK hN [] rfl (by decide)) gX0_neededOf_X5_contains_n29 (List.mem_of_getElem? (i := 3) rfl) (List.mem_of_getElem? (i := 2) rfl) 3 rfl rfl kd_X5_contains ⟨by decide, by decide⟩ (st := []) rfl (Nat.le_of_ble_eq_true rfl) dX0_neededOf_15 ⟨by decide, by decide⟩) (fun u hu => ?_)
  obtain ⟨r_70, e9⟩ : ∃ z, z = u := ⟨_, rfl⟩; subst e9
  try dsimp only at hu ⊢
  have e70_0 := hu
  subst e70_0
  refine g_eqi (y := (0 : Int32)) (by decide) ?_
  refine g_if_eq (tgt := 45) B dX0_neededOf_18 (by decide) (fun _ => ?_) (fun c71 => absurd (by decide) c71)
  refine g_iinc (lv' := [(0, .ref ha), (1, .long (1 : Int64)), (3, .long (1 : Int64)), (5, .int (23 : Int32))]) B dX0_neededOf_45 3 rfl (by decide) (by decide) [1, 2, 3, 0] rfl ?_
  refine g_goto (tgt := 5) B dX0_neededOf_48 (by decide) ?_
  refine g_iload B dX0_neededOf_5 3 rfl ?_
  refine g_bipush (v := (41 : Int32)) B dX0_neededOf_7 (by decide) ?_
  refine g_icmp_ge (tgt := 51) B dX0_neededOf_9 (by decide) (fun c72 => absurd c72 (by decide)) (fun _ => ?_)
  refine g_lload_n B dX0_neededOf_12 2 rfl ?_
  refine g_iload B dX0_neededOf_13 3 rfl ?_
  refine g_callP (g_runSN B hN (PM.met (c_X5_contains l (D := D) (cI := cI) (cL := cL) (cZ := cZ) (1 : Int64) 23 (by omega))) (gPp.pre (av := [.long (1 : Int64), .int (23 : Int32)]) (wc := []) hK hN [] rfl (by decide)) gX0_neededOf_X5_contains_n29 (List.mem_of_getElem? (i := 3) rfl) (List.mem_of_getElem? (i := 2) rfl) 3 rfl rfl kd_X5_contains ⟨by decide, by decide⟩ (st := []) rfl (Nat.le_of_ble_eq_true rfl) dX0_neededOf_15 ⟨by decide, by decide⟩) (fun u hu => ?_)
  obtain ⟨r_73, e9⟩ : ∃ z, z = u := ⟨_, rfl⟩; subst e9
  try dsimp only at hu ⊢
  have e73_0 := hu
  subst e73_0
  refine g_eqi (y := (0 : Int32)) (by decide) ?_
  refine g_if_eq (tgt := 45) B dX0_neededOf_18 (by decide) (fun _ => ?_) (fun c74 => absurd (by decide) c74)
  refine g_iinc (lv' := [(0, .ref ha), (1, .long (1 : Int64)), (3, .long (1 : Int64)), (5, .int (24 : Int32))]) B dX0_neededOf_45 3 rfl (by decide) (by decide) [1, 2, 3, 0] rfl ?_
  refine g_goto (tgt := 5) B dX0_neededOf_48 (by decide) ?_
  refine g_iload B dX0_neededOf_5 3 rfl ?_
  refine g_bipush (v := (41 : Int32)) B dX0_neededOf_7 (by decide) ?_
  refine g_icmp_ge (tgt := 51) B dX0_neededOf_9 (by decide) (fun c75 => absurd c75 (by decide)) (fun _ => ?_)
  refine g_lload_n B dX0_neededOf_12 2 rfl ?_
  refine g_iload B dX0_neededOf_13 3 rfl ?_
  refine g_callP (g_runSN B hN (PM.met (c_X5_contains l (D := D) (cI := cI) (cL := cL) (cZ := cZ) (1 : Int64) 24 (by omega))) (gPp.pre (av := [.long (1 : Int64), .int (24 : Int32)]) (wc := []) hK hN [] rfl (by decide)) gX0_neededOf_X5_contains_n29 (List.mem_of_getElem? (i := 3) rfl) (List.mem_of_getElem? (i := 2) rfl) 3 rfl rfl kd_X5_contains ⟨by decide, by decide⟩ (st := []) rfl (Nat.le_of_ble_eq_true rfl) dX0_neededOf_15 ⟨by decide, by decide⟩) (fun u hu => ?_)
  obtain ⟨r_76, e9⟩ : ∃ z, z = u := ⟨_, rfl⟩; subst e9
  try dsimp only at hu ⊢
  have e76_0 := hu
  subst e76_0
  refine g_eqi (y := (0 : Int32)) (by decide) ?_
  refine g_if_eq (tgt := 45) B dX0_neededOf_18 (by decide) (fun _ => ?_) (fun c77 => absurd (by decide) c77)
  refine g_iinc (lv' := [(0, .ref ha), (1, .long (1 : Int64)), (3, .long (1 : Int64)), (5, .int (25 : Int32))]) B dX0_neededOf_45 3 rfl (by decide) (by decide) [1, 2, 3, 0] rfl ?_
  refine g_goto (tgt := 5) B dX0_neededOf_48 (by decide) ?_
  refine g_iload B dX0_neededOf_5 3 rfl ?_
  refine g_bipush (v := (41 : Int32)) B dX0_neededOf_7 (by decide) ?_
  refine g_icmp_ge (tgt := 51) B dX0_neededOf_9 (by decide) (fun c78 => absurd c78 (by decide)) (fun _ => ?_)
  refine g_lload_n B dX0_neededOf_12 2 rfl ?_
  refine g_iload B dX0_neededOf_13 3 rfl ?_
  refine g_callP (g_runSN B hN (PM.met (c_X5_contains l (D := D) (cI := cI) (cL := cL) (cZ := cZ) (1 : Int64) 25 (by omega))) (gPp.pre (av := [.long (1 : Int64), .int (25 : Int32)]) (wc := []) hK hN [] rfl (by decide)) gX0_neededOf_X5_contains_n29 (List.mem_of_getElem? (i := 3) rfl) (List.mem_of_getElem? (i := 2) rfl) 3 rfl rfl kd_X5_contains ⟨by decide, by decide⟩ (st := []) rfl (Nat.le_of_ble_eq_true rfl) dX0_neededOf_15 ⟨by decide, by decide⟩) (fun u hu => ?_)
  obtain ⟨r_79, e9⟩ : ∃ z, z = u := ⟨_, rfl⟩; subst e9
  try dsimp only at hu ⊢
  have e79_0 := hu
  subst e79_0
  refine g_eqi (y := (0 : Int32)) (by decide) ?_
  refine g_if_eq (tgt := 45) B dX0_neededOf_18 (by decide) (fun _ => ?_) (fun c80 => absurd (by decide) c80)
  refine g_iinc (lv' := [(0, .ref ha), (1, .long (1 : Int64)), (3, .long (1 : Int64)), (5, .int (26 : Int32))]) B dX0_neededOf_45 3 rfl (by decide) (by decide) [1, 2, 3, 0] rfl ?_
  refine g_goto (tgt := 5) B dX0_neededOf_48 (by decide) ?_
  refine g_iload B dX0_neededOf_5 3 rfl ?_
  refine g_bipush (v := (41 : Int32)) B dX0_neededOf_7 (by decide) ?_
  refine g_icmp_ge (tgt := 51) B dX0_neededOf_9 (by decide) (fun c81 => absurd c81 (by decide)) (fun _ => ?_)
  refine g_lload_n B dX0_neededOf_12 2 rfl ?_
  refine g_iload B dX0_neededOf_13 3 rfl ?_
  refine g_callP (g_runSN B hN (PM.met (c_X5_contains l (D := D) (cI := cI) (cL := cL) (cZ := cZ) (1 : Int64) 26 (by omega))) (gPp.pre (av := [.long (1 : Int64), .int (26 : Int32)]) (wc := []) hK hN [] rfl (by decide)) gX0_neededOf_X5_contains_n29 (List.mem_of_getElem? (i := 3) rfl) (List.mem_of_getElem? (i := 2) rfl) 3 rfl rfl kd_X5_contains ⟨by decide, by decide⟩ (st := []) rfl (Nat.le_of_ble_eq_true rfl) dX0_neededOf_15 ⟨by decide, by decide⟩) (fun u hu => ?_)
  obtain ⟨r_82, e9⟩ : ∃ z, z = u := ⟨_, rfl⟩; subst e9
  try dsimp only at hu ⊢
  have e82_0 := hu
  subst e82_0
  refine g_eqi (y := (0 : Int32)) (by decide) ?_
  refine g_if_eq (tgt := 45) B dX0_neededOf_18 (by decide) (fun _ => ?_) (fun c83 => absurd (by decide) c83)
  refine g_iinc (lv' := [(0, .ref ha), (1, .long (1 : Int64)), (3, .long (1 : Int64)), (5, .int (27 : Int32))]) B dX0_neededOf_45 3 rfl (by decide) (by decide) [1, 2, 3, 0] rfl ?_
  refine g_goto (tgt := 5) B dX0_neededOf_48 (by decide) ?_
  refine g_iload B dX0_neededOf_5 3 rfl ?_
  refine g_bipush (v := (41 : Int32)) B dX0_neededOf_7 (by decide) ?_
  refine g_icmp_ge (tgt := 51) B dX0_neededOf_9 (by decide) (fun c84 => absurd c84 (by decide)) (fun _ => ?_)
  refine g_lload_n B dX0_neededOf_12 2 rfl ?_
  refine g_iload B dX0_neededOf_13 3 rfl ?_
  refine g_callP (g_runSN B hN (PM.met (c_X5_contains l (D := D) (cI := cI) (cL := cL) (cZ := cZ) (1 : Int64) 27 (by omega))) (gPp.pre (av := [.long (1 : Int64), .int (27 : Int32)]) (wc := []) hK hN [] rfl (by decide)) gX0_neededOf_X5_contains_n29 (List.mem_of_getElem? (i := 3) rfl) (List.mem_of_getElem? (i := 2) rfl) 3 rfl rfl kd_X5_contains ⟨by decide, by decide⟩ (st := []) rfl (Nat.le_of_ble_eq_true rfl) dX0_neededOf_15 ⟨by decide, by decide⟩) (fun u hu => ?_)
  obtain ⟨r_85, e9⟩ : ∃ z, z = u := ⟨_, rfl⟩; subst e9
  try dsimp only at hu ⊢
  have e85_0 := hu
  subst e85_0
  refine g_eqi (y := (0 : Int32)) (by decide) ?_
  refine g_if_eq (tgt := 45) B dX0_neededOf_18 (by decide) (fun _ => ?_) (fun c86 => absurd (by decide) c86)
  refine g_iinc (lv' := [(0, .ref ha), (1, .long (1 : Int64)), (3, .long (1 : Int64)), (5, .int (28 : Int32))]) B dX0_neededOf_45 3 rfl (by decide) (by decide) [1, 2, 3, 0] rfl ?_
  refine g_goto (tgt := 5) B dX0_neededOf_48 (by decide) ?_
  refine g_iload B dX0_neededOf_5 3 rfl ?_
  refine g_bipush (v := (41 : Int32)) B dX0_neededOf_7 (by decide) ?_
  refine g_icmp_ge (tgt := 51) B dX0_neededOf_9 (by decide) (fun c87 => absurd c87 (by decide)) (fun _ => ?_)
  refine g_lload_n B dX0_neededOf_12 2 rfl ?_
  refine g_iload B dX0_neededOf_13 3 rfl ?_
  refine g_callP (g_runSN B hN (PM.met (c_X5_contains l (D := D) (cI := cI) (cL := cL) (cZ := cZ) (1 : Int64) 28 (by omega))) (gPp.pre (av := [.long (1 : Int64), .int (28 : Int32)]) (wc := []) hK hN [] rfl (by decide)) gX0_neededOf_X5_contains_n29 (List.mem_of_getElem? (i := 3) rfl) (List.mem_of_getElem? (i := 2) rfl) 3 rfl rfl kd_X5_contains ⟨by decide, by decide⟩ (st := []) rfl (Nat.le_of_ble_eq_true rfl) dX0_neededOf_15 ⟨by decide, by decide⟩) (fun u hu => ?_)
  obtain ⟨r_88, e9⟩ : ∃ z, z = u := ⟨_, rfl⟩; subst e9
  try dsimp only at hu ⊢
  have e88_0 := hu
  subst e88_0
  refine g_eqi (y := (0 : Int32)) (by decide) ?_
  refine g_if_eq (tgt := 45) B dX0_neededOf_18 (by decide) (fun _ => ?_) (fun c89 => absurd (by decide) c89)
  refine g_iinc (lv' := [(0, .ref ha), (1, .long (1 : Int64)), (3, .long (1 : Int64)), (5, .int (29 : Int32))]) B dX0_neededOf_45 3 rfl (by decide) (by decide) [1, 2, 3, 0] rfl ?_
  refine g_goto (tgt := 5) B dX0_neededOf_48 (by decide) ?_
  refine g_iload B dX0_neededOf_5 3 rfl ?_
  refine g_bipush (v := (41 : Int32)) B dX0_neededOf_7 (by decide) ?_
  refine g_icmp_ge (tgt := 51) B dX0_neededOf_9 (by decide) (fun c90 => absurd c90 (by decide)) (fun _ => ?_)
  refine g_lload_n B dX0_neededOf_12 2 rfl ?_
  refine g_iload B dX0_neededOf_13 3 rfl ?_
  refine g_callP (g_runSN B hN (PM.met (c_X5_contains l (D := D) (cI := cI) (cL := cL) (cZ := cZ) (1 : Int64) 29 (by omega))) (gPp.pre (av := [.long (1 : Int64), .int (29 : Int32)]) (wc := []) hK hN [] rfl (by decide)) gX0_neededOf_X5_contains_n29 (List.mem_of_getElem? (i := 3) rfl) (List.mem_of_getElem? (i := 2) rfl) 3 rfl rfl kd_X5_contains ⟨by decide, by decide⟩ (st := []) rfl (Nat.le_of_ble_eq_true rfl) dX0_neededOf_15 ⟨by decide, by decide⟩) (fun u hu => ?_)
  obtain ⟨r_91, e9⟩ : ∃ z, z = u := ⟨_, rfl⟩; subst e9
  try dsimp only at hu ⊢
  have e91_0 := hu
  subst e91_0
  refine g_eqi (y := (0 : Int32)) (by decide) ?_
  refine g_if_eq (tgt := 45) B dX0_neededOf_18 (by decide) (fun _ => ?_) (fun c92 => absurd (by decide) c92)
  refine g_iinc (lv' := [(0, .ref ha), (1, .long (1 : Int64)), (3, .long (1 : Int64)), (5, .int (30 : Int32))]) B dX0_neededOf_45 3 rfl (by decide) (by decide) [1, 2, 3, 0] rfl ?_
  refine g_goto (tgt := 5) B dX0_neededOf_48 (by decide) ?_
  refine g_iload B dX0_neededOf_5 3 rfl ?_
  refine g_bipush (v := (41 : Int32)) B dX0_neededOf_7 (by decide) ?_
  refine g_icmp_ge (tgt := 51) B dX0_neededOf_9 (by decide) (fun c93 => absurd c93 (by decide)) (fun _ => ?_)
  refine g_lload_n B dX0_neededOf_12 2 rfl ?_
  refine g_iload B dX0_neededOf_13 3 rfl ?_
  refine g_callP (g_runSN B hN (PM.met (c_X5_contains l (D := D) (cI := cI) (cL := cL) (cZ := cZ) (1 : Int64) 30 (by omega))) (gPp.pre (av := [.long (1 : Int64), .int (30 : Int32)]) (wc := []) hK hN [] rfl (by decide)) gX0_neededOf_X5_contains_n29 (List.mem_of_getElem? (i := 3) rfl) (List.mem_of_getElem? (i := 2) rfl) 3 rfl rfl kd_X5_contains ⟨by decide, by decide⟩ (st := []) rfl (Nat.le_of_ble_eq_true rfl) dX0_neededOf_15 ⟨by decide, by decide⟩) (fun u hu => ?_)
  obtain ⟨r_94, e9⟩ : ∃ z, z = u := ⟨_, rfl⟩; subst e9
  try dsimp only at hu ⊢
  have e94_0 := hu
  subst e94_0
  refine g_eqi (y := (0 : Int32)) (by decide) ?_
  refine g_if_eq (tgt := 45) B dX0_neededOf_18 (by decide) (fun _ => ?_) (fun c95 => absurd (by decide) c95)
  refine g_iinc (lv' := [(0, .ref ha), (1, .long (1 : Int64)), (3, .long (1 : Int64)), (5, .int (31 : Int32))]) B dX0_neededOf_45 3 rfl (by decide) (by decide) [1, 2, 3, 0] rfl ?_
  refine g_goto (tgt := 5) B dX0_neededOf_48 (by decide) ?_
  refine g_iload B dX0_neededOf_5 3 rfl ?_
  refine g_bipush (v := (41 : Int32)) B dX0_neededOf_7 (by decide) ?_
  refine g_icmp_ge (tgt := 51) B dX0_neededOf_9 (by decide) (fun c96 => absurd c96 (by decide)) (fun _ => ?_)
  refine g_lload_n B dX0_neededOf_12 2 rfl ?_
  refine g_iload B dX0_neededOf_13 3 rfl ?_
  refine g_callP (g_runSN B hN (PM.met (c_X5_contains l (D := D) (cI := cI) (cL := cL) (cZ := cZ) (1 : Int64) 31 (by omega))) (gPp.pre (av := [.long (1 : Int64), .int (31 : Int32)]) (wc := []) hK hN [] rfl (by decide)) gX0_neededOf_X5_contains_n29 (List.mem_of_getElem? (i := 3) rfl) (List.mem_of_getElem? (i := 2) rfl) 3 rfl rfl kd_X5_contains ⟨by decide, by decide⟩ (st := []) rfl (Nat.le_of_ble_eq_true rfl) dX0_neededOf_15 ⟨by decide, by decide⟩) (fun u hu => ?_)
  obtain ⟨r_97, e9⟩ : ∃ z, z = u := ⟨_, rfl⟩; subst e9
  try dsimp only at hu ⊢
  have e97_0 := hu
  subst e97_0
  refine g_eqi (y := (0 : Int32)) (by decide) ?_
  refine g_if_eq (tgt := 45) B dX0_neededOf_18 (by decide) (fun _ => ?_) (fun c98 => absurd (by decide) c98)
  refine g_iinc (lv' := [(0, .ref ha), (1, .long (1 : Int64)), (3, .long (1 : Int64)), (5, .int (32 : Int32))]) B dX0_neededOf_45 3 rfl (by decide) (by decide) [1, 2, 3, 0] rfl ?_
  refine g_goto (tgt := 5) B dX0_neededOf_48 (by decide) ?_
  refine g_iload B dX0_neededOf_5 3 rfl ?_
  refine g_bipush (v := (41 : Int32)) B dX0_neededOf_7 (by decide) ?_
  refine g_icmp_ge (tgt := 51) B dX0_neededOf_9 (by decide) (fun c99 => absurd c99 (by decide)) (fun _ => ?_)
  refine g_lload_n B dX0_neededOf_12 2 rfl ?_
  refine g_iload B dX0_neededOf_13 3 rfl ?_
  refine g_callP (g_runSN B hN (PM.met (c_X5_contains l (D := D) (cI := cI) (cL := cL) (cZ := cZ) (1 : Int64) 32 (by omega))) (gPp.pre (av := [.long (1 : Int64), .int (32 : Int32)]) (wc := []) hK hN [] rfl (by decide)) gX0_neededOf_X5_contains_n29 (List.mem_of_getElem? (i := 3) rfl) (List.mem_of_getElem? (i := 2) rfl) 3 rfl rfl kd_X5_contains ⟨by decide, by decide⟩ (st := []) rfl (Nat.le_of_ble_eq_true rfl) dX0_neededOf_15 ⟨by decide, by decide⟩) (fun u hu => ?_)
  obtain ⟨r_100, e9⟩ : ∃ z, z = u := ⟨_, rfl⟩; subst e9
  try dsimp only at hu ⊢
  have e100_0 := hu
  subst e100_0
  refine g_eqi (y := (0 : Int32)) (by decide) ?_
  refine g_if_eq (tgt := 45) B dX0_neededOf_18 (by decide) (fun _ => ?_) (fun c101 => absurd (by decide) c101)
  refine g_iinc (lv' := [(0, .ref ha), (1, .long (1 : Int64)), (3, .long (1 : Int64)), (5, .int (33 : Int32))]) B dX0_neededOf_45 3 rfl (by decide) (by decide) [1, 2, 3, 0] rfl ?_
  refine g_goto (tgt := 5) B dX0_neededOf_48 (by decide) ?_
  refine g_iload B dX0_neededOf_5 3 rfl ?_
  refine g_bipush (v := (41 : Int32)) B dX0_neededOf_7 (by decide) ?_
  refine g_icmp_ge (tgt := 51) B dX0_neededOf_9 (by decide) (fun c102 => absurd c102 (by decide)) (fun _ => ?_)
  refine g_lload_n B dX0_neededOf_12 2 rfl ?_
  refine g_iload B dX0_neededOf_13 3 rfl ?_
  refine g_callP (g_runSN B hN (PM.met (c_X5_contains l (D := D) (cI := cI) (cL := cL) (cZ := cZ) (1 : Int64) 33 (by omega))) (gPp.pre (av := [.long (1 : Int64), .int (33 : Int32)]) (wc := []) hK hN [] rfl (by decide)) gX0_neededOf_X5_contains_n29 (List.mem_of_getElem? (i := 3) rfl) (List.mem_of_getElem? (i := 2) rfl) 3 rfl rfl kd_X5_contains ⟨by decide, by decide⟩ (st := []) rfl (Nat.le_of_ble_eq_true rfl) dX0_neededOf_15 ⟨by decide, by decide⟩) (fun u hu => ?_)
  obtain ⟨r_103, e9⟩ : ∃ z, z = u := ⟨_, rfl⟩; subst e9
  try dsimp only at hu ⊢
  have e103_0 := hu
  subst e103_0
  refine g_eqi (y := (0 : Int32)) (by decide) ?_
  refine g_if_eq (tgt := 45) B dX0_neededOf_18 (by decide) (fun _ => ?_) (fun c104 => absurd (by decide) c104)
  refine g_iinc (lv' := [(0, .ref ha), (1, .long (1 : Int64)), (3, .long (1 : Int64)), (5, .int (34 : Int32))]) B dX0_neededOf_45 3 rfl (by decide) (by decide) [1, 2, 3, 0] rfl ?_
  refine g_goto (tgt := 5) B dX0_neededOf_48 (by decide) ?_
  refine g_iload B dX0_neededOf_5 3 rfl ?_
  refine g_bipush (v := (41 : Int32)) B dX0_neededOf_7 (by decide) ?_
  refine g_icmp_ge (tgt := 51) B dX0_neededOf_9 (by decide) (fun c105 => absurd c105 (by decide)) (fun _ => ?_)
  refine g_lload_n B dX0_neededOf_12 2 rfl ?_
  refine g_iload B dX0_neededOf_13 3 rfl ?_
  refine g_callP (g_runSN B hN (PM.met (c_X5_contains l (D := D) (cI := cI) (cL := cL) (cZ := cZ) (1 : Int64) 34 (by omega))) (gPp.pre (av := [.long (1 : Int64), .int (34 : Int32)]) (wc := []) hK hN [] rfl (by decide)) gX0_neededOf_X5_contains_n29 (List.mem_of_getElem? (i := 3) rfl) (List.mem_of_getElem? (i := 2) rfl) 3 rfl rfl kd_X5_contains ⟨by decide, by decide⟩ (st := []) rfl (Nat.le_of_ble_eq_true rfl) dX0_neededOf_15 ⟨by decide, by decide⟩) (fun u hu => ?_)
  obtain ⟨r_106, e9⟩ : ∃ z, z = u := ⟨_, rfl⟩; subst e9
  try dsimp only at hu ⊢
  have e106_0 := hu
  subst e106_0
  refine g_eqi (y := (0 : Int32)) (by decide) ?_
  refine g_if_eq (tgt := 45) B dX0_neededOf_18 (by decide) (fun _ => ?_) (fun c107 => absurd (by decide) c107)
  refine g_iinc (lv' := [(0, .ref ha), (1, .long (1 : Int64)), (3, .long (1 : Int64)), (5, .int (35 : Int32))]) B dX0_neededOf_45 3 rfl (by decide) (by decide) [1, 2, 3, 0] rfl ?_
  refine g_goto (tgt := 5) B dX0_neededOf_48 (by decide) ?_
  refine g_iload B dX0_neededOf_5 3 rfl ?_
  refine g_bipush (v := (41 : Int32)) B dX0_neededOf_7 (by decide) ?_
  refine g_icmp_ge (tgt := 51) B dX0_neededOf_9 (by decide) (fun c108 => absurd c108 (by decide)) (fun _ => ?_)
  refine g_lload_n B dX0_neededOf_12 2 rfl ?_
  refine g_iload B dX0_neededOf_13 3 rfl ?_
  refine g_callP (g_runSN B hN (PM.met (c_X5_contains l (D := D) (cI := cI) (cL := cL) (cZ := cZ) (1 : Int64) 35 (by omega))) (gPp.pre (av := [.long (1 : Int64), .int (35 : Int32)]) (wc := []) hK hN [] rfl (by decide)) gX0_neededOf_X5_contains_n29 (List.mem_of_getElem? (i := 3) rfl) (List.mem_of_getElem? (i := 2) rfl) 3 rfl rfl kd_X5_contains ⟨by decide, by decide⟩ (st := []) rfl (Nat.le_of_ble_eq_true rfl) dX0_neededOf_15 ⟨by decide, by decide⟩) (fun u hu => ?_)
  obtain ⟨r_109, e9⟩ : ∃ z, z = u := ⟨_, rfl⟩; subst e9
  try dsimp only at hu ⊢
  have e109_0 := hu
  subst e109_0
  refine g_eqi (y := (0 : Int32)) (by decide) ?_
  refine g_if_eq (tgt := 45) B dX0_neededOf_18 (by decide) (fun _ => ?_) (fun c110 => absurd (by decide) c110)
  refine g_iinc (lv' := [(0, .ref ha), (1, .long (1 : Int64)), (3, .long (1 : Int64)), (5, .int (36 : Int32))]) B dX0_neededOf_45 3 rfl (by decide) (by decide) [1, 2, 3, 0] rfl ?_
  refine g_goto (tgt := 5) B dX0_neededOf_48 (by decide) ?_
  refine g_iload B dX0_neededOf_5 3 rfl ?_
  refine g_bipush (v := (41 : Int32)) B dX0_neededOf_7 (by decide) ?_
  refine g_icmp_ge (tgt := 51) B dX0_neededOf_9 (by decide) (fun c111 => absurd c111 (by decide)) (fun _ => ?_)
  refine g_lload_n B dX0_neededOf_12 2 rfl ?_
  refine g_iload B dX0_neededOf_13 3 rfl ?_
  refine g_callP (g_runSN B hN (PM.met (c_X5_contains l (D := D) (cI := cI) (cL := cL) (cZ := cZ) (1 : Int64) 36 (by omega))) (gPp.pre (av := [.long (1 : Int64), .int (36 : Int32)]) (wc := []) hK hN [] rfl (by decide)) gX0_neededOf_X5_contains_n29 (List.mem_of_getElem? (i := 3) rfl) (List.mem_of_getElem? (i := 2) rfl) 3 rfl rfl kd_X5_contains ⟨by decide, by decide⟩ (st := []) rfl (Nat.le_of_ble_eq_true rfl) dX0_neededOf_15 ⟨by decide, by decide⟩) (fun u hu => ?_)
  obtain ⟨r_112, e9⟩ : ∃ z, z = u := ⟨_, rfl⟩; subst e9
  try dsimp only at hu ⊢
  have e112_0 := hu
  subst e112_0
  refine g_eqi (y := (0 : Int32)) (by decide) ?_
  refine g_if_eq (tgt := 45) B dX0_neededOf_18 (by decide) (fun _ => ?_) (fun c113 => absurd (by decide) c113)
  refine g_iinc (lv' := [(0, .ref ha), (1, .long (1 : Int64)), (3, .long (1 : Int64)), (5, .int (37 : Int32))]) B dX0_neededOf_45 3 rfl (by decide) (by decide) [1, 2, 3, 0] rfl ?_
  refine g_goto (tgt := 5) B dX0_neededOf_48 (by decide) ?_
  refine g_iload B dX0_neededOf_5 3 rfl ?_
  refine g_bipush (v := (41 : Int32)) B dX0_neededOf_7 (by decide) ?_
  refine g_icmp_ge (tgt := 51) B dX0_neededOf_9 (by decide) (fun c114 => absurd c114 (by decide)) (fun _ => ?_)
  refine g_lload_n B dX0_neededOf_12 2 rfl ?_
  refine g_iload B dX0_neededOf_13 3 rfl ?_
  refine g_callP (g_runSN B hN (PM.met (c_X5_contains l (D := D) (cI := cI) (cL := cL) (cZ := cZ) (1 : Int64) 37 (by omega))) (gPp.pre (av := [.long (1 : Int64), .int (37 : Int32)]) (wc := []) hK hN [] rfl (by decide)) gX0_neededOf_X5_contains_n29 (List.mem_of_getElem? (i := 3) rfl) (List.mem_of_getElem? (i := 2) rfl) 3 rfl rfl kd_X5_contains ⟨by decide, by decide⟩ (st := []) rfl (Nat.le_of_ble_eq_true rfl) dX0_neededOf_15 ⟨by decide, by decide⟩) (fun u hu => ?_)
  obtain ⟨r_115, e9⟩ : ∃ z, z = u := ⟨_, rfl⟩; subst e9
  try dsimp only at hu ⊢
  have e115_0 := hu
  subst e115_0
  refine g_eqi (y := (0 : Int32)) (by decide) ?_
  refine g_if_eq (tgt := 45) B dX0_neededOf_18 (by decide) (fun _ => ?_) (fun c116 => absurd (by decide) c116)
  refine g_iinc (lv' := [(0, .ref ha), (1, .long (1 : Int64)), (3, .long (1 : Int64)), (5, .int (38 : Int32))]) B dX0_neededOf_45 3 rfl (by decide) (by decide) [1, 2, 3, 0] rfl ?_
  refine g_goto (tgt := 5) B dX0_neededOf_48 (by decide) ?_
  refine g_iload B dX0_neededOf_5 3 rfl ?_
  refine g_bipush (v := (41 : Int32)) B dX0_neededOf_7 (by decide) ?_
  refine g_icmp_ge (tgt := 51) B dX0_neededOf_9 (by decide) (fun c117 => absurd c117 (by decide)) (fun _ => ?_)
  refine g_lload_n B dX0_neededOf_12 2 rfl ?_
  refine g_iload B dX0_neededOf_13 3 rfl ?_
  refine g_callP (g_runSN B hN (PM.met (c_X5_contains l (D := D) (cI := cI) (cL := cL) (cZ := cZ) (1 : Int64) 38 (by omega))) (gPp.pre (av := [.long (1 : Int64), .int (38 : Int32)]) (wc := []) hK hN [] rfl (by decide)) gX0_neededOf_X5_contains_n29 (List.mem_of_getElem? (i := 3) rfl) (List.mem_of_getElem? (i := 2) rfl) 3 rfl rfl kd_X5_contains ⟨by decide, by decide⟩ (st := []) rfl (Nat.le_of_ble_eq_true rfl) dX0_neededOf_15 ⟨by decide, by decide⟩) (fun u hu => ?_)
  obtain ⟨r_118, e9⟩ : ∃ z, z = u := ⟨_, rfl⟩; subst e9
  try dsimp only at hu ⊢
  have e118_0 := hu
  subst e118_0
  refine g_eqi (y := (0 : Int32)) (by decide) ?_
  refine g_if_eq (tgt := 45) B dX0_neededOf_18 (by decide) (fun _ => ?_) (fun c119 => absurd (by decide) c119)
  refine g_iinc (lv' := [(0, .ref ha), (1, .long (1 : Int64)), (3, .long (1 : Int64)), (5, .int (39 : Int32))]) B dX0_neededOf_45 3 rfl (by decide) (by decide) [1, 2, 3, 0] rfl ?_
  refine g_goto (tgt := 5) B dX0_neededOf_48 (by decide) ?_
  refine g_iload B dX0_neededOf_5 3 rfl ?_
  refine g_bipush (v := (41 : Int32)) B dX0_neededOf_7 (by decide) ?_
  refine g_icmp_ge (tgt := 51) B dX0_neededOf_9 (by decide) (fun c120 => absurd c120 (by decide)) (fun _ => ?_)
  refine g_lload_n B dX0_neededOf_12 2 rfl ?_
  refine g_iload B dX0_neededOf_13 3 rfl ?_
  refine g_callP (g_runSN B hN (PM.met (c_X5_contains l (D := D) (cI := cI) (cL := cL) (cZ := cZ) (1 : Int64) 39 (by omega))) (gPp.pre (av := [.long (1 : Int64), .int (39 : Int32)]) (wc := []) hK hN [] rfl (by decide)) gX0_neededOf_X5_contains_n29 (List.mem_of_getElem? (i := 3) rfl) (List.mem_of_getElem? (i := 2) rfl) 3 rfl rfl kd_X5_contains ⟨by decide, by decide⟩ (st := []) rfl (Nat.le_of_ble_eq_true rfl) dX0_neededOf_15 ⟨by decide, by decide⟩) (fun u hu => ?_)
  obtain ⟨r_121, e9⟩ : ∃ z, z = u := ⟨_, rfl⟩; subst e9
  try dsimp only at hu ⊢
  have e121_0 := hu
  subst e121_0
  refine g_eqi (y := (0 : Int32)) (by decide) ?_
  refine g_if_eq (tgt := 45) B dX0_neededOf_18 (by decide) (fun _ => ?_) (fun c122 => absurd (by decide) c122)
  refine g_iinc (lv' := [(0, .ref ha), (1, .long (1 : Int64)), (3, .long (1 : Int64)), (5, .int (40 : Int32))]) B dX0_neededOf_45 3 rfl (by decide) (by decide) [1, 2, 3, 0] rfl ?_
  refine g_goto (tgt := 5) B dX0_neededOf_48 (by decide) ?_
  refine g_iload B dX0_neededOf_5 3 rfl ?_
  refine g_bipush (v := (41 : Int32)) B dX0_neededOf_7 (by decide) ?_
  refine g_icmp_ge (tgt := 51) B dX0_neededOf_9 (by decide) (fun c123 => absurd c123 (by decide)) (fun _ => ?_)
  refine g_lload_n B dX0_neededOf_12 2 rfl ?_
  refine g_iload B dX0_neededOf_13 3 rfl ?_
  refine g_callP (g_runSN B hN (PM.met (c_X5_contains l (D := D) (cI := cI) (cL := cL) (cZ := cZ) (1 : Int64) 40 (by omega))) (gPp.pre (av := [.long (1 : Int64), .int (40 : Int32)]) (wc := []) hK hN [] rfl (by decide)) gX0_neededOf_X5_contains_n29 (List.mem_of_getElem? (i := 3) rfl) (List.mem_of_getElem? (i := 2) rfl) 3 rfl rfl kd_X5_contains ⟨by decide, by decide⟩ (st := []) rfl (Nat.le_of_ble_eq_true rfl) dX0_neededOf_15 ⟨by decide, by decide⟩) (fun u hu => ?_)
  obtain ⟨r_124, e9⟩ : ∃ z, z = u := ⟨_, rfl⟩; subst e9
  try dsimp only at hu ⊢
  have e124_0 := hu
  subst e124_0
  refine g_eqi (y := (0 : Int32)) (by decide) ?_
  refine g_if_eq (tgt := 45) B dX0_neededOf_18 (by decide) (fun _ => ?_) (fun c125 => absurd (by decide) c125)
  refine g_iinc (lv' := [(0, .ref ha), (1, .long (1 : Int64)), (3, .long (1 : Int64)), (5, .int (41 : Int32))]) B dX0_neededOf_45 3 rfl (by decide) (by decide) [1, 2, 3, 0] rfl ?_
  refine g_goto (tgt := 5) B dX0_neededOf_48 (by decide) ?_
  refine g_iload B dX0_neededOf_5 3 rfl ?_
  refine g_bipush (v := (41 : Int32)) B dX0_neededOf_7 (by decide) ?_
  refine g_icmp_ge (tgt := 51) B dX0_neededOf_9 (by decide) (fun _ => ?_) (fun c126 => absurd (by decide) c126)
  refine g_lload_n B dX0_neededOf_51 2 rfl ?_
  exact g_lret_p B hr hlocks () (rfl) (trivial) dX0_neededOf_52

set_option maxHeartbeats 4000000 in
set_option maxRecDepth 100000 in
theorem k_keptIfTasted (l : Launch) {D : va_G} {cI cL cZ : ClassId} (ha : Nat) (a0 : Nat) (a1 : Nat) (a2 : Nat) (a3 : Nat) (fa0 : Nat → Int32) (fa1 : Nat → Int32) (fa3 : Nat → Int64) (ht : Nat) (t0 : Nat) (t : Nat) (ht1 : t < 10000) : WM l yX0_keptIfTasted wsX0_keptIfTasted ({ frames := 3, cells := 0, slots := 0, locals := 73 } : Room) D (gTys cI cL cZ) [.ref ha, .int (nI t), .ref ht] [(ha, .inr (0, [.ref a0, .ref a1, .ref a2, .ref a3, .int (0 : Int32), .long (0 : Int64)])), (a0, .inl (cI, 41, .inl fa0)), (a1, .inl (cI, 41, .inl fa1)), (a3, .inl (cL, 41, .inr (.inl fa3))), (ht, .inr (4, [.ref t0, .int (1 : Int32), .int (1 : Int32), .long (2 : Int64)]))] (fun (_ : Unit) => True) (fun (_ : Unit) => some (.long (1 : Int64))) (fun (_ : Unit) => [(ha, .inr (0, [.ref a0, .ref a1, .ref a2, .ref a3, .int (0 : Int32), .long (0 : Int64)])), (a0, .inl (cI, 41, .inl (upd fa0 0 (nI t)))), (a1, .inl (cI, 41, .inl (upd fa1 0 (1 : Int32)))), (a3, .inl (cL, 41, .inr (.inl (vp_updL fa3 0 (2 : Int64))))), (ht, .inr (4, [.ref t0, .int (1 : Int32), .int (1 : Int32), .long (2 : Int64)]))]) := by
  refine WM.ofG cX0_keptIfTasted 3 (some .long) (by decide +kernel) rfl (Nat.le_of_ble_eq_true rfl) ?_
  intro p e s m below meth c A hA B hr hlocks hname hK hN
  refine g_aload_n B dX0_keptIfTasted_0 0 rfl ?_
  refine g_get (C := RX0) (T := TX0) (N := 6) (ci := 0) B hK hin_X0_keptIfTasted_RX0 0 rfl rfl 4 (by decide) (List.mem_of_getElem? (i := 1) rfl) rfl (v := .int (0 : Int32)) rfl dX0_keptIfTasted_1 ?_
  refine g_bipush (v := (41 : Int32)) B dX0_keptIfTasted_4 (by decide) ?_
  refine g_icmp_ge (tgt := 18) B dX0_keptIfTasted_6 (by decide) (fun c1 => absurd c1 (by decide)) (fun _ => ?_)
  refine g_aload_n B dX0_keptIfTasted_9 0 rfl ?_
  refine g_iload_n B dX0_keptIfTasted_10 1 rfl ?_
  refine g_callP (g_runV (q0 := 0) (ci := 0) B hK rfl rfl (PM.met (k_numberOf_0 l (D := D) (cI := cI) (cL := cL) (cZ := cZ) ha a0 a1 a2 a3 (nI t) )) (gPp.pre (av := [.ref ha, .int (nI t)]) (wc := [(ha, .inr (0, [.ref a0, .ref a1, .ref a2, .ref a3, .int (0 : Int32), .long (0 : Int64)]))]) hK hN [0] rfl (by decide)) gX0_keptIfTasted_X0_numberOf rfl rfl kd_X0_numberOf ⟨by decide, by decide⟩ (st := []) rfl (Nat.le_of_ble_eq_true rfl) dX0_keptIfTasted_11 ⟨by decide, by decide⟩) (fun u hu => ?_)
  refine g_iconst (v := (-1 : Int32)) B dX0_keptIfTasted_14 (by decide) ?_
  refine g_icmp_eq (tgt := 23) B dX0_keptIfTasted_15 (by decide) (fun _ => ?_) (fun c3 => absurd (by decide) c3)
  refine g_aload_n B dX0_keptIfTasted_23 0 rfl ?_
  refine g_get (C := RX0) (T := TX0) (N := 6) (ci := 0) B hK hin_X0_keptIfTasted_RX0 0 rfl rfl 0 (by decide) (List.mem_of_getElem? (i := 3) rfl) rfl (v := .ref a0) rfl dX0_keptIfTasted_24 ?_
  refine g_aload_n B dX0_keptIfTasted_27 0 rfl ?_
  refine g_get (C := RX0) (T := TX0) (N := 6) (ci := 0) B hK hin_X0_keptIfTasted_RX0 0 rfl rfl 4 (by decide) (List.mem_of_getElem? (i := 1) rfl) rfl (v := .int (0 : Int32)) rfl dX0_keptIfTasted_28 ?_
  refine g_iload_n B dX0_keptIfTasted_31 1 rfl ?_
  refine g_iast B hK 1 0 rfl rfl 0 rfl (by omega) (by omega) (f2 := (upd fa0 0 (nI t))) (rfl) (w2 := [(ha, .inr (0, [.ref a0, .ref a1, .ref a2, .ref a3, .int (0 : Int32), .long (0 : Int64)])), (a0, .inl (cI, 41, .inl (upd fa0 0 (nI t)))), (a1, .inl (cI, 41, .inl fa1)), (a3, .inl (cL, 41, .inr (.inl fa3))), (ht, .inr (4, [.ref t0, .int (1 : Int32), .int (1 : Int32), .long (2 : Int64)]))]) rfl (fun _ h => h) dX0_keptIfTasted_32 ?_
  refine g_aload_n B dX0_keptIfTasted_33 0 rfl ?_
  refine g_aload_n B dX0_keptIfTasted_34 0 rfl ?_
  refine g_get (C := RX0) (T := TX0) (N := 6) (ci := 0) B hK hin_X0_keptIfTasted_RX0 0 rfl rfl 4 (by decide) (List.mem_of_getElem? (i := 1) rfl) rfl (v := .int (0 : Int32)) rfl dX0_keptIfTasted_35 ?_
  refine g_aload_n B dX0_keptIfTasted_38 2 rfl ?_
  refine g_callW (w2 := (fun (_ : Unit) => [(ha, .inr (0, [.ref a0, .ref a1, .ref a2, .ref a3, .int (0 : Int32), .long (0 : Int64)])), (a0, .inl (cI, 41, .inl (upd fa0 0 (nI t)))), (a1, .inl (cI, 41, .inl (upd fa1 0 (1 : Int32)))), (a3, .inl (cL, 41, .inr (.inl (vp_updL fa3 0 (2 : Int64))))), (ht, .inr (4, [.ref t0, .int (1 : Int32), .int (1 : Int32), .long (2 : Int64)]))])) (g_runV (q0 := 0) (ci := 0) B hK rfl rfl (k_note l (D := D) (cI := cI) (cL := cL) (cZ := cZ) ha a0 a1 a2 a3 fa1 fa3 ht t0 ) (gPw.pre (av := [.ref ha, .int (0 : Int32), .ref ht]) (wc := [(ha, .inr (0, [.ref a0, .ref a1, .ref a2, .ref a3, .int (0 : Int32), .long (0 : Int64)])), (a1, .inl (cI, 41, .inl fa1)), (a3, .inl (cL, 41, .inr (.inl fa3))), (ht, .inr (4, [.ref t0, .int (1 : Int32), .int (1 : Int32), .long (2 : Int64)]))]) hK hN [0, 2, 3, 4] rfl (by decide)) gX0_keptIfTasted_X0_note rfl rfl kd_X0_note ⟨by decide, by decide⟩ (st := []) rfl (Nat.le_of_ble_eq_true rfl) dX0_keptIfTasted_39 ⟨by decide, by decide⟩) hA (fun _ h => h) [0, 2, 3, 4] [1] (wr := [(a0, .inl (cI, 41, .inl (upd fa0 0 (nI t))))]) rfl rfl (by decide) (by decide) [1, 0, 2, 3, 4] (by decide) (fun _ => rfl) (fun u hu => ?_)
  refine g_aload_n B dX0_keptIfTasted_42 0 rfl ?_
  refine g_aload_n B dX0_keptIfTasted_43 0 rfl ?_
  refine g_get (C := RX0) (T := TX0) (N := 6) (ci := 0) B hK hin_X0_keptIfTasted_RX0 0 rfl rfl 4 (by decide) (List.mem_of_getElem? (i := 1) rfl) rfl (v := .int (0 : Int32)) rfl dX0_keptIfTasted_44 ?_
  refine g_aload_n B dX0_keptIfTasted_47 0 rfl ?_
  refine g_get (C := RX0) (T := TX0) (N := 6) (ci := 0) B hK hin_X0_keptIfTasted_RX0 0 rfl rfl 5 (by decide) (List.mem_of_getElem? (i := 2) rfl) rfl (v := .long (0 : Int64)) rfl dX0_keptIfTasted_48 ?_
  refine g_callP (g_runV (q0 := 0) (ci := 0) B hK rfl rfl (PM.met (k_foundAloneBy_0 l (D := D) (cI := cI) (cL := cL) (cZ := cZ) ha a0 a1 a2 a3 fa3 )) (gPp.pre (av := [.ref ha, .int (0 : Int32), .long (0 : Int64)]) (wc := [(ha, .inr (0, [.ref a0, .ref a1, .ref a2, .ref a3, .int (0 : Int32), .long (0 : Int64)])), (a3, .inl (cL, 41, .inr (.inl (vp_updL fa3 0 (2 : Int64)))))]) hK hN [0, 3] rfl (by decide)) gX0_keptIfTasted_X0_foundAloneBy rfl rfl kd_X0_foundAloneBy ⟨by decide, by decide⟩ (st := []) rfl (Nat.le_of_ble_eq_true rfl) dX0_keptIfTasted_51 ⟨by decide, by decide⟩) (fun u hu => ?_)
  refine g_lconst (v := (0 : Int64)) B dX0_keptIfTasted_54 rfl ?_
  refine g_lcmp (v := (1 : Int32)) B dX0_keptIfTasted_55 (by decide) ?_
  refine g_if_ne (tgt := 64) B dX0_keptIfTasted_56 (by decide) (fun _ => ?_) (fun c6 => absurd c6 (by decide))
  refine g_aload_n B dX0_keptIfTasted_64 0 rfl ?_
  refine g_aload_n B dX0_keptIfTasted_65 0 rfl ?_
  refine g_get (C := RX0) (T := TX0) (N := 6) (ci := 0) B hK hin_X0_keptIfTasted_RX0 0 rfl rfl 5 (by decide) (List.mem_of_getElem? (i := 2) rfl) rfl (v := .long (0 : Int64)) rfl dX0_keptIfTasted_66 ?_
  refine g_aload_n B dX0_keptIfTasted_69 0 rfl ?_
  refine g_get (C := RX0) (T := TX0) (N := 6) (ci := 0) B hK hin_X0_keptIfTasted_RX0 0 rfl rfl 4 (by decide) (List.mem_of_getElem? (i := 1) rfl) rfl (v := .int (0 : Int32)) rfl dX0_keptIfTasted_70 ?_
  refine g_callP (g_runSN B hN (PM.met (c_X5_bit l (D := D) (cI := cI) (cL := cL) (cZ := cZ) 0 (by omega))) (gPp.pre (av := [.int (0 : Int32)]) (wc := []) hK hN [] rfl (by decide)) gX0_keptIfTasted_X5_bit_n37 (List.mem_of_getElem? (i := 21) rfl) (List.mem_of_getElem? (i := 20) rfl) 4 rfl rfl kd_X5_bit ⟨by decide, by decide⟩ (st := [.long (0 : Int64), .ref ha]) rfl (Nat.le_of_ble_eq_true rfl) dX0_keptIfTasted_73 ⟨by decide, by decide⟩) (fun u hu => ?_)
  obtain ⟨r_7, e9⟩ : ∃ z, z = u := ⟨_, rfl⟩; subst e9
  try dsimp only at hu ⊢
  have e7_0 := hu
  subst e7_0
  refine g_eql (y := (1 : Int64)) (by decide) ?_
  refine g_lor (v := (1 : Int64)) B dX0_keptIfTasted_76 (by decide) ?_
  refine g_callP (g_runV (q0 := 0) (ci := 0) B hK rfl rfl (PM.met (k_neededOf_1 l (D := D) (cI := cI) (cL := cL) (cZ := cZ) ha a0 a1 a2 a3 fa3 )) (gPp.pre (av := [.ref ha, .long (1 : Int64)]) (wc := [(ha, .inr (0, [.ref a0, .ref a1, .ref a2, .ref a3, .int (0 : Int32), .long (0 : Int64)])), (a3, .inl (cL, 41, .inr (.inl (vp_updL fa3 0 (2 : Int64)))))]) hK hN [0, 3] rfl (by decide)) gX0_keptIfTasted_X0_neededOf rfl rfl kd_X0_neededOf ⟨by decide, by decide⟩ (st := []) rfl (Nat.le_of_ble_eq_true rfl) dX0_keptIfTasted_77 ⟨by decide, by decide⟩) (fun u hu => ?_)
  exact g_lret_w B hr hlocks () (rfl) (trivial) [0, 1, 2, 3, 4] (by decide) rfl dX0_keptIfTasted_80

set_option maxHeartbeats 4000000 in
set_option maxRecDepth 100000 in
theorem k_take (l : Launch) {D : va_G} {cI cL cZ : ClassId} (ha : Nat) (a0 : Nat) (a1 : Nat) (a2 : Nat) (a3 : Nat)  : WM l yX0_take wsX0_take ({ frames := 0, cells := 0, slots := 0, locals := 0 } : Room) D (gTys cI cL cZ) [.ref ha, .long (1 : Int64)] [(ha, .inr (0, [.ref a0, .ref a1, .ref a2, .ref a3, .int (0 : Int32), .long (0 : Int64)]))] (fun (_ : Unit) => True) (fun (_ : Unit) => none) (fun (_ : Unit) => [(ha, .inr (0, [.ref a0, .ref a1, .ref a2, .ref a3, .int (1 : Int32), .long (1 : Int64)]))]) := by
  refine WM.ofG cX0_take 3 none (by decide +kernel) rfl (Nat.le_of_ble_eq_true rfl) ?_
  intro p e s m below meth c A hA B hr hlocks hname hK hN
  refine g_lload_n B dX0_take_0 1 rfl ?_
  refine g_aload_n B dX0_take_1 0 rfl ?_
  refine g_get (C := RX0) (T := TX0) (N := 6) (ci := 0) B hK hin_X0_take_RX0 0 rfl rfl 5 (by decide) (List.mem_of_getElem? (i := 1) rfl) rfl (v := .long (0 : Int64)) rfl dX0_take_2 ?_
  refine g_lcmp (v := (1 : Int32)) B dX0_take_5 (by decide) ?_
  refine g_if_eq (tgt := 33) B dX0_take_6 (by decide) (fun c1 => absurd c1 (by decide)) (fun _ => ?_)
  refine g_aload_n B dX0_take_9 0 rfl ?_
  refine g_get (C := RX0) (T := TX0) (N := 6) (ci := 0) B hK hin_X0_take_RX0 0 rfl rfl 4 (by decide) (List.mem_of_getElem? (i := 2) rfl) rfl (v := .int (0 : Int32)) rfl dX0_take_10 ?_
  refine g_bipush (v := (40 : Int32)) B dX0_take_13 (by decide) ?_
  refine g_icmp_ge (tgt := 33) B dX0_take_15 (by decide) (fun c2 => absurd c2 (by decide)) (fun _ => ?_)
  refine g_aload_n B dX0_take_18 0 rfl ?_
  refine g_lload_n B dX0_take_19 1 rfl ?_
  refine g_put (C := RX0) (T := TX0) (N := 6) (ci := 0) B hK hin_X0_take_RX0 0 rfl rfl 5 (by decide) tyX0 tyX0_ok nmX0 (List.mem_of_getElem? (i := 1) rfl) rfl rfl (ty := .long) (v := .long (1 : Int64)) (by decide +kernel) rfl rfl (Nat.le_of_ble_eq_true rfl) (w2 := [(ha, .inr (0, [.ref a0, .ref a1, .ref a2, .ref a3, .int (0 : Int32), .long (1 : Int64)]))]) rfl (fun _ h => h) dX0_take_20 ?_
  refine g_aload_n B dX0_take_23 0 rfl ?_
  refine g_dup B dX0_take_24 rfl ?_
  refine g_get (C := RX0) (T := TX0) (N := 6) (ci := 0) B hK hin_X0_take_RX0 0 rfl rfl 4 (by decide) (List.mem_of_getElem? (i := 2) rfl) rfl (v := .int (0 : Int32)) rfl dX0_take_25 ?_
  refine g_iconst (v := (1 : Int32)) B dX0_take_28 (by decide) ?_
  refine g_iadd (v := (1 : Int32)) B dX0_take_29 (by decide) ?_
  refine g_put (C := RX0) (T := TX0) (N := 6) (ci := 0) B hK hin_X0_take_RX0 0 rfl rfl 4 (by decide) tyX0 tyX0_ok nmX0 (List.mem_of_getElem? (i := 2) rfl) rfl rfl (ty := .int) (v := .int (1 : Int32)) (by decide +kernel) rfl rfl (Nat.le_of_ble_eq_true rfl) (w2 := [(ha, .inr (0, [.ref a0, .ref a1, .ref a2, .ref a3, .int (1 : Int32), .long (1 : Int64)]))]) rfl (fun _ h => h) dX0_take_30 ?_
  exact g_vret_w B hr hlocks () (rfl) (trivial) [0] (by decide) rfl dX0_take_33

set_option maxHeartbeats 4000000 in
set_option maxRecDepth 100000 in
theorem k_settle (l : Launch) {D : va_G} {cI cL cZ : ClassId} (ha : Nat) (a0 : Nat) (a1 : Nat) (a2 : Nat) (a3 : Nat)  : WM l yX0_settle wsX0_settle ({ frames := 2, cells := 0, slots := 0, locals := 47 } : Room) D (gTys cI cL cZ) [.ref ha] [(ha, .inr (0, [.ref a0, .ref a1, .ref a2, .ref a3, .int (0 : Int32), .long (0 : Int64)]))] (fun (_ : Unit) => True) (fun (_ : Unit) => none) (fun (_ : Unit) => [(ha, .inr (0, [.ref a0, .ref a1, .ref a2, .ref a3, .int (0 : Int32), .long (0 : Int64)]))]) := by
  refine WM.ofG cX0_settle 2 none (by decide +kernel) rfl (Nat.le_of_ble_eq_true rfl) ?_
  intro p e s m below meth c A hA B hr hlocks hname hK hN
  refine g_iconst (v := (0 : Int32)) B dX0_settle_0 (by decide) ?_
  refine g_istore_n (lv' := [(0, .ref ha), (1, .int (0 : Int32))]) B dX0_settle_1 rfl (by decide) [1, 0] rfl ?_
  refine g_iload_n B dX0_settle_2 1 rfl ?_
  refine g_aload_n B dX0_settle_3 0 rfl ?_
  refine g_get (C := RX0) (T := TX0) (N := 6) (ci := 0) B hK hin_X0_settle_RX0 0 rfl rfl 4 (by decide) (List.mem_of_getElem? (i := 1) rfl) rfl (v := .int (0 : Int32)) rfl dX0_settle_4 ?_
  refine g_icmp_ge (tgt := 57) B dX0_settle_7 (by decide) (fun _ => ?_) (fun c1 => absurd (by decide) c1)
  refine g_aload_n B dX0_settle_57 0 rfl ?_
  refine g_aload_n B dX0_settle_58 0 rfl ?_
  refine g_aload_n B dX0_settle_59 0 rfl ?_
  refine g_get (C := RX0) (T := TX0) (N := 6) (ci := 0) B hK hin_X0_settle_RX0 0 rfl rfl 5 (by decide) (List.mem_of_getElem? (i := 2) rfl) rfl (v := .long (0 : Int64)) rfl dX0_settle_60 ?_
  refine g_callP (g_runV (q0 := 0) (ci := 0) B hK rfl rfl (PM.met (k_neededOf_0 l (D := D) (cI := cI) (cL := cL) (cZ := cZ) ha a0 a1 a2 a3 )) (gPp.pre (av := [.ref ha, .long (0 : Int64)]) (wc := [(ha, .inr (0, [.ref a0, .ref a1, .ref a2, .ref a3, .int (0 : Int32), .long (0 : Int64)]))]) hK hN [0] rfl (by decide)) gX0_settle_X0_neededOf rfl rfl kd_X0_neededOf ⟨by decide, by decide⟩ (st := [.ref ha]) rfl (Nat.le_of_ble_eq_true rfl) dX0_settle_63 ⟨by decide, by decide⟩) (fun u hu => ?_)
  refine g_put (C := RX0) (T := TX0) (N := 6) (ci := 0) B hK hin_X0_settle_RX0 0 rfl rfl 5 (by decide) tyX0 tyX0_ok nmX0 (List.mem_of_getElem? (i := 2) rfl) rfl rfl (ty := .long) (v := .long (0 : Int64)) (by decide +kernel) rfl rfl (Nat.le_of_ble_eq_true rfl) (w2 := [(ha, .inr (0, [.ref a0, .ref a1, .ref a2, .ref a3, .int (0 : Int32), .long (0 : Int64)]))]) rfl (fun _ h => h) dX0_settle_66 ?_
  exact g_vret_w B hr hlocks () (rfl) (trivial) [0] (by decide) rfl dX0_settle_69

set_option maxHeartbeats 4000000 in
set_option maxRecDepth 100000 in
theorem k_coverersOf_0 (l : Launch) {D : va_G} {cI cL cZ : ClassId} (ha : Nat) (a0 : Nat) (a1 : Nat) (a2 : Nat) (a3 : Nat) (ed : Int32)  : PM l yX0_coverersOf wsX0_coverersOf ({ frames := 0, cells := 0, slots := 0, locals := 0 } : Room) D (gTys cI cL cZ) [.ref ha, .int ed] [(ha, .inr (0, [.ref a0, .ref a1, .ref a2, .ref a3, .int (0 : Int32), .long (0 : Int64)]))] (fun (_ : Unit) => True) (fun (_ : Unit) => some (.long (0 : Int64))) := by
  refine PM.ofG cX0_coverersOf 5 (some .long) (by decide +kernel) rfl (Nat.le_of_ble_eq_true rfl) ?_
  intro p e s m below meth c B hr hlocks hname hK hN
  refine g_lconst (v := (0 : Int64)) B dX0_coverersOf_0 rfl ?_
  refine g_lstore_n (lv' := [(0, .ref ha), (1, .int ed), (2, .long (0 : Int64))]) B dX0_coverersOf_1 rfl (by decide) [1, 2, 0] rfl ?_
  refine g_iconst (v := (0 : Int32)) B dX0_coverersOf_2 (by decide) ?_
  refine g_istore (lv' := [(0, .ref ha), (1, .int ed), (2, .long (0 : Int64)), (4, .int (0 : Int32))]) B dX0_coverersOf_3 (by decide) [1, 2, 3, 0] rfl ?_
  refine g_iload B dX0_coverersOf_5 3 rfl ?_
  refine g_aload_n B dX0_coverersOf_7 0 rfl ?_
  refine g_get (C := RX0) (T := TX0) (N := 6) (ci := 0) B hK hin_X0_coverersOf_RX0 0 rfl rfl 4 (by decide) (List.mem_of_getElem? (i := 1) rfl) rfl (v := .int (0 : Int32)) rfl dX0_coverersOf_8 ?_
  refine g_icmp_ge (tgt := 49) B dX0_coverersOf_11 (by decide) (fun _ => ?_) (fun c1 => absurd (by decide) c1)
  refine g_lload_n B dX0_coverersOf_49 2 rfl ?_
  exact g_lret_p B hr hlocks () (rfl) (trivial) dX0_coverersOf_50

set_option maxHeartbeats 4000000 in
set_option maxRecDepth 100000 in
theorem k_mostEnergetic_0 (l : Launch) {D : va_G} {cI cL cZ : ClassId} (ha : Nat) (a0 : Nat) (a1 : Nat) (a2 : Nat) (a3 : Nat)  : PM l yX0_mostEnergetic wsX0_mostEnergetic ({ frames := 0, cells := 0, slots := 0, locals := 0 } : Room) D (gTys cI cL cZ) [.ref ha] [(ha, .inr (0, [.ref a0, .ref a1, .ref a2, .ref a3, .int (0 : Int32), .long (0 : Int64)]))] (fun (_ : Unit) => True) (fun (_ : Unit) => some (.int (-1 : Int32))) := by
  refine PM.ofG cX0_mostEnergetic 5 (some .int) (by decide +kernel) rfl (Nat.le_of_ble_eq_true rfl) ?_
  intro p e s m below meth c B hr hlocks hname hK hN
  refine g_iconst (v := (-1 : Int32)) B dX0_mostEnergetic_0 (by decide) ?_
  refine g_istore_n (lv' := [(0, .ref ha), (1, .int (-1 : Int32))]) B dX0_mostEnergetic_1 rfl (by decide) [1, 0] rfl ?_
  refine g_iconst (v := (-1 : Int32)) B dX0_mostEnergetic_2 (by decide) ?_
  refine g_istore_n (lv' := [(0, .ref ha), (1, .int (-1 : Int32)), (2, .int (-1 : Int32))]) B dX0_mostEnergetic_3 rfl (by decide) [1, 2, 0] rfl ?_
  refine g_iconst (v := (0 : Int32)) B dX0_mostEnergetic_4 (by decide) ?_
  refine g_istore_n (lv' := [(0, .ref ha), (1, .int (-1 : Int32)), (2, .int (-1 : Int32)), (3, .int (0 : Int32))]) B dX0_mostEnergetic_5 rfl (by decide) [1, 2, 3, 0] rfl ?_
  refine g_iload_n B dX0_mostEnergetic_6 3 rfl ?_
  refine g_aload_n B dX0_mostEnergetic_7 0 rfl ?_
  refine g_get (C := RX0) (T := TX0) (N := 6) (ci := 0) B hK hin_X0_mostEnergetic_RX0 0 rfl rfl 4 (by decide) (List.mem_of_getElem? (i := 1) rfl) rfl (v := .int (0 : Int32)) rfl dX0_mostEnergetic_8 ?_
  refine g_icmp_ge (tgt := 52) B dX0_mostEnergetic_11 (by decide) (fun _ => ?_) (fun c1 => absurd (by decide) c1)
  refine g_iload_n B dX0_mostEnergetic_52 1 rfl ?_
  exact g_iret_p B hr rfl hlocks () (rfl) (trivial) dX0_mostEnergetic_53

set_option maxHeartbeats 4000000 in
set_option maxRecDepth 100000 in
theorem k_add (l : Launch) {D : va_G} {cI cL cZ : ClassId} (hq : Nat) (r0 : Nat) (r1 : Nat) (r2 : Nat) (b1 : Int32) (b2 : Int32) (b3 : Int32)  : WM l yX3_add wsX3_add ({ frames := 0, cells := 0, slots := 0, locals := 0 } : Room) D (gTys cI cL cZ) [.ref hq, .int b1, .int b2, .int b3] [(hq, .inr (3, [.ref r0, .ref r1, .ref r2, .int (0 : Int32)])), (r0, .inl (cI, 6, .inl (fun _ => (0 : Int32)))), (r1, .inl (cI, 6, .inl (fun _ => (0 : Int32)))), (r2, .inl (cI, 6, .inl (fun _ => (0 : Int32))))] (fun (_ : Unit) => True) (fun (_ : Unit) => some (.int (0 : Int32))) (fun (_ : Unit) => [(hq, .inr (3, [.ref r0, .ref r1, .ref r2, .int (1 : Int32)]))]) := by
  refine WM.ofG cX3_add 4 (some .int) (by decide +kernel) rfl (Nat.le_of_ble_eq_true rfl) ?_
  intro p e s m below meth c A hA B hr hlocks hname hK hN
  refine g_aload_n B dX3_add_0 0 rfl ?_
  refine g_get (C := RX3) (T := TX3) (N := 4) (ci := 3) B hK hin_X3_add_RX3 0 rfl rfl 0 (by decide) (List.mem_of_getElem? (i := 1) rfl) rfl (v := .ref r0) rfl dX3_add_1 ?_
  refine g_aload_n B dX3_add_4 0 rfl ?_
  refine g_get (C := RX3) (T := TX3) (N := 4) (ci := 3) B hK hin_X3_add_RX3 0 rfl rfl 3 (by decide) (List.mem_of_getElem? (i := 2) rfl) rfl (v := .int (0 : Int32)) rfl dX3_add_5 ?_
  refine g_iload_n B dX3_add_8 1 rfl ?_
  refine g_iast B hK 1 0 rfl rfl 0 rfl (by omega) (by omega) (f2 := (upd (fun _ => (0 : Int32)) 0 b1)) (rfl) (w2 := [(hq, .inr (3, [.ref r0, .ref r1, .ref r2, .int (0 : Int32)])), (r0, .inl (cI, 6, .inl (upd (fun _ => (0 : Int32)) 0 b1))), (r1, .inl (cI, 6, .inl (fun _ => (0 : Int32)))), (r2, .inl (cI, 6, .inl (fun _ => (0 : Int32))))]) rfl (fun _ h => h) dX3_add_9 ?_
  refine g_aload_n B dX3_add_10 0 rfl ?_
  refine g_get (C := RX3) (T := TX3) (N := 4) (ci := 3) B hK hin_X3_add_RX3 0 rfl rfl 1 (by decide) (List.mem_of_getElem? (i := 3) rfl) rfl (v := .ref r1) rfl dX3_add_11 ?_
  refine g_aload_n B dX3_add_14 0 rfl ?_
  refine g_get (C := RX3) (T := TX3) (N := 4) (ci := 3) B hK hin_X3_add_RX3 0 rfl rfl 3 (by decide) (List.mem_of_getElem? (i := 2) rfl) rfl (v := .int (0 : Int32)) rfl dX3_add_15 ?_
  refine g_iload_n B dX3_add_18 2 rfl ?_
  refine g_iast B hK 2 0 rfl rfl 0 rfl (by omega) (by omega) (f2 := (upd (fun _ => (0 : Int32)) 0 b2)) (rfl) (w2 := [(hq, .inr (3, [.ref r0, .ref r1, .ref r2, .int (0 : Int32)])), (r0, .inl (cI, 6, .inl (upd (fun _ => (0 : Int32)) 0 b1))), (r1, .inl (cI, 6, .inl (upd (fun _ => (0 : Int32)) 0 b2))), (r2, .inl (cI, 6, .inl (fun _ => (0 : Int32))))]) rfl (fun _ h => h) dX3_add_19 ?_
  refine g_aload_n B dX3_add_20 0 rfl ?_
  refine g_get (C := RX3) (T := TX3) (N := 4) (ci := 3) B hK hin_X3_add_RX3 0 rfl rfl 2 (by decide) (List.mem_of_getElem? (i := 4) rfl) rfl (v := .ref r2) rfl dX3_add_21 ?_
  refine g_aload_n B dX3_add_24 0 rfl ?_
  refine g_get (C := RX3) (T := TX3) (N := 4) (ci := 3) B hK hin_X3_add_RX3 0 rfl rfl 3 (by decide) (List.mem_of_getElem? (i := 2) rfl) rfl (v := .int (0 : Int32)) rfl dX3_add_25 ?_
  refine g_iload_n B dX3_add_28 3 rfl ?_
  refine g_iast B hK 3 0 rfl rfl 0 rfl (by omega) (by omega) (f2 := (upd (fun _ => (0 : Int32)) 0 b3)) (rfl) (w2 := [(hq, .inr (3, [.ref r0, .ref r1, .ref r2, .int (0 : Int32)])), (r0, .inl (cI, 6, .inl (upd (fun _ => (0 : Int32)) 0 b1))), (r1, .inl (cI, 6, .inl (upd (fun _ => (0 : Int32)) 0 b2))), (r2, .inl (cI, 6, .inl (upd (fun _ => (0 : Int32)) 0 b3)))]) rfl (fun _ h => h) dX3_add_29 ?_
  refine g_aload_n B dX3_add_30 0 rfl ?_
  refine g_dup B dX3_add_31 rfl ?_
  refine g_get (C := RX3) (T := TX3) (N := 4) (ci := 3) B hK hin_X3_add_RX3 0 rfl rfl 3 (by decide) (List.mem_of_getElem? (i := 2) rfl) rfl (v := .int (0 : Int32)) rfl dX3_add_32 ?_
  refine g_iconst (v := (1 : Int32)) B dX3_add_35 (by decide) ?_
  refine g_iadd (v := (1 : Int32)) B dX3_add_36 (by decide) ?_
  refine g_put (C := RX3) (T := TX3) (N := 4) (ci := 3) B hK hin_X3_add_RX3 0 rfl rfl 3 (by decide) tyX3 tyX3_ok nmX3 (List.mem_of_getElem? (i := 2) rfl) rfl rfl (ty := .int) (v := .int (1 : Int32)) (by decide +kernel) rfl rfl (Nat.le_of_ble_eq_true rfl) (w2 := [(hq, .inr (3, [.ref r0, .ref r1, .ref r2, .int (1 : Int32)])), (r0, .inl (cI, 6, .inl (upd (fun _ => (0 : Int32)) 0 b1))), (r1, .inl (cI, 6, .inl (upd (fun _ => (0 : Int32)) 0 b2))), (r2, .inl (cI, 6, .inl (upd (fun _ => (0 : Int32)) 0 b3)))]) rfl (fun _ h => h) dX3_add_37 ?_
  refine g_aload_n B dX3_add_40 0 rfl ?_
  refine g_get (C := RX3) (T := TX3) (N := 4) (ci := 3) B hK hin_X3_add_RX3 0 rfl rfl 3 (by decide) (List.mem_of_getElem? (i := 2) rfl) rfl (v := .int (1 : Int32)) rfl dX3_add_41 ?_
  refine g_iconst (v := (1 : Int32)) B dX3_add_44 (by decide) ?_
  refine g_isub (v := (0 : Int32)) B dX3_add_45 (by decide) ?_
  exact g_iret_w B hr rfl hlocks () (rfl) (trivial) [0] (by decide) rfl dX3_add_46

set_option maxHeartbeats 4000000 in
set_option maxRecDepth 100000 in
theorem k_keptAfterChange (l : Launch) {D : va_G} {cI cL cZ : ClassId} (hb : Nat) (hp : Nat) (ht : Nat) (hg : Nat) (ha : Nat) (hq : Nat) (a0 : Nat) (a1 : Nat) (a2 : Nat) (a3 : Nat)  : WM l yX5_keptAfterChange wsX5_keptAfterChange ({ frames := 3, cells := 0, slots := 0, locals := 68 } : Room) D (gTys cI cL cZ) [.ref hb] [(hb, .inr (5, [.ref hp, .ref ht, .ref hg, .ref ha, .ref hq])), (ha, .inr (0, [.ref a0, .ref a1, .ref a2, .ref a3, .int (0 : Int32), .long (0 : Int64)]))] (fun (_ : Unit) => True) (fun (_ : Unit) => some (.int (0 : Int32))) (fun (_ : Unit) => [(hb, .inr (5, [.ref hp, .ref ht, .ref hg, .ref ha, .ref hq]))]) := by
  refine WM.ofG cX5_keptAfterChange 2 (some .int) (by decide +kernel) rfl (Nat.le_of_ble_eq_true rfl) ?_
  intro p e s m below meth c A hA B hr hlocks hname hK hN
  refine g_iconst (v := (0 : Int32)) B dX5_keptAfterChange_0 (by decide) ?_
  refine g_istore_n (lv' := [(0, .ref hb), (1, .int (0 : Int32))]) B dX5_keptAfterChange_1 rfl (by decide) [1, 0] rfl ?_
  refine g_iload_n B dX5_keptAfterChange_2 1 rfl ?_
  refine g_aload_n B dX5_keptAfterChange_3 0 rfl ?_
  refine g_get (C := RX5) (T := TX5) (N := 5) (ci := 5) B hK hin_X5_keptAfterChange_RX5 0 rfl rfl 3 (by decide) (List.mem_of_getElem? (i := 1) rfl) rfl (v := .ref ha) rfl dX5_keptAfterChange_4 ?_
  refine g_getN (C := RX0) (T := TX0) (N := 6) (ci := 0) B hK hin_X5_keptAfterChange_RX0 1 rfl rfl 4 (by decide) hN 4 rfl rfl (v := .int (0 : Int32)) rfl dX5_keptAfterChange_7 ?_
  refine g_icmp_ge (tgt := 57) B dX5_keptAfterChange_10 (by decide) (fun _ => ?_) (fun c1 => absurd (by decide) c1)
  refine g_aload_n B dX5_keptAfterChange_57 0 rfl ?_
  refine g_get (C := RX5) (T := TX5) (N := 5) (ci := 5) B hK hin_X5_keptAfterChange_RX5 0 rfl rfl 3 (by decide) (List.mem_of_getElem? (i := 1) rfl) rfl (v := .ref ha) rfl dX5_keptAfterChange_58 ?_
  refine g_callW (w2 := (fun (_ : Unit) => [(hb, .inr (5, [.ref hp, .ref ht, .ref hg, .ref ha, .ref hq])), (ha, .inr (0, [.ref a0, .ref a1, .ref a2, .ref a3, .int (0 : Int32), .long (0 : Int64)]))])) (g_runV (q0 := 1) (ci := 0) B hK rfl rfl (k_settle l (D := D) (cI := cI) (cL := cL) (cZ := cZ) ha a0 a1 a2 a3 ) (gPw.pre (av := [.ref ha]) (wc := [(ha, .inr (0, [.ref a0, .ref a1, .ref a2, .ref a3, .int (0 : Int32), .long (0 : Int64)]))]) hK hN [1] rfl (by decide)) gX5_keptAfterChange_X0_settle rfl rfl kd_X0_settle ⟨by decide, by decide⟩ (st := []) rfl (Nat.le_of_ble_eq_true rfl) dX5_keptAfterChange_61 ⟨by decide, by decide⟩) hA (fun _ h => h) [1] [0] (wr := [(hb, .inr (5, [.ref hp, .ref ht, .ref hg, .ref ha, .ref hq]))]) rfl rfl (by decide) (by decide) [0, 1] (by decide) (fun _ => rfl) (fun u hu => ?_)
  refine g_aload_n B dX5_keptAfterChange_64 0 rfl ?_
  refine g_get (C := RX5) (T := TX5) (N := 5) (ci := 5) B hK hin_X5_keptAfterChange_RX5 0 rfl rfl 3 (by decide) (List.mem_of_getElem? (i := 1) rfl) rfl (v := .ref ha) rfl dX5_keptAfterChange_65 ?_
  refine g_getN (C := RX0) (T := TX0) (N := 6) (ci := 0) B hK hin_X5_keptAfterChange_RX0 1 rfl rfl 5 (by decide) hN 7 rfl rfl (v := .long (0 : Int64)) rfl dX5_keptAfterChange_68 ?_
  refine g_callP (g_runS B (PM.met (c_bitCount_0 l (D := D) (cI := cI) (cL := cL) (cZ := cZ)  )) (gPp.pre (av := [.long (0 : Int64)]) (wc := []) hK hN [] rfl (by decide)) gX5_keptAfterChange_J13_bitCount_95d88 rfl kd_J13_bitCount_95d88 ⟨by decide, by decide⟩ (st := []) rfl (Nat.le_of_ble_eq_true rfl) dX5_keptAfterChange_71 ⟨by decide, by decide⟩) (fun u hu => ?_)
  exact g_iret_w B hr rfl hlocks () (rfl) (trivial) [0] (by decide) rfl dX5_keptAfterChange_74

set_option maxHeartbeats 4000000 in
set_option maxRecDepth 100000 in
theorem k_tasteOf (l : Launch) {D : va_G} {cI cL cZ : ClassId} (hb : Nat) (hp : Nat) (ht : Nat) (hg : Nat) (ha : Nat) (hq : Nat) (p0 : Nat) (p1 : Nat) (p2 : Nat) (p3 : Nat) (p4 : Nat) (t0 : Nat) (fp : Nat → Int32) (ts : Int32) (tr : Int32) (tf : Int64) (a0 : Nat) (a1 : Nat) (a2 : Nat) (a3 : Nat) (fa0 : Nat → Int32) (fa1 : Nat → Int32) (fa3 : Nat → Int64) (t : Nat) (ht1 : t < 10000) : WM l yX5_tasteOf wsX5_tasteOf ({ frames := 4, cells := 0, slots := 0, locals := 95 } : Room) D (gTys cI cL cZ) [.ref hb, .int (nI t)] [(hb, .inr (5, [.ref hp, .ref ht, .ref hg, .ref ha, .ref hq])), (hp, .inr (2, [.ref p0, .ref p1, .ref p2, .ref p3, .ref p4])), (p0, .inl (cI, 12, .inl (fun _ => (0 : Int32)))), (p1, .inl (cI, 12, .inl (fun _ => (0 : Int32)))), (p2, .inl (cI, 12, .inl (fun _ => (0 : Int32)))), (p3, .inl (cI, 24, .inl (fun _ => (-1 : Int32)))), (p4, .inl (cZ, 12, .inl (fun _ => (0 : Int32)))), (ht, .inr (4, [.ref t0, .int ts, .int tr, .long tf])), (t0, .inl (cI, 30, .inl fp)), (ha, .inr (0, [.ref a0, .ref a1, .ref a2, .ref a3, .int (0 : Int32), .long (0 : Int64)])), (a0, .inl (cI, 41, .inl fa0)), (a1, .inl (cI, 41, .inl fa1)), (a3, .inl (cL, 41, .inr (.inl fa3)))] (fun (_ : Unit) => True) (fun (_ : Unit) => some (.int (0 : Int32))) (fun (_ : Unit) => [(hb, .inr (5, [.ref hp, .ref ht, .ref hg, .ref ha, .ref hq]))]) := by
  refine WM.ofG cX5_tasteOf 2 (some .int) (by decide +kernel) rfl (Nat.le_of_ble_eq_true rfl) ?_
  intro p e s m below meth c A hA B hr hlocks hname hK hN
  refine g_aload_n B dX5_tasteOf_0 0 rfl ?_
  refine g_get (C := RX5) (T := TX5) (N := 5) (ci := 5) B hK hin_X5_tasteOf_RX5 0 rfl rfl 0 (by decide) (List.mem_of_getElem? (i := 1) rfl) rfl (v := .ref hp) rfl dX5_tasteOf_1 ?_
  refine g_iload_n B dX5_tasteOf_4 1 rfl ?_
  refine g_aload_n B dX5_tasteOf_5 0 rfl ?_
  refine g_get (C := RX5) (T := TX5) (N := 5) (ci := 5) B hK hin_X5_tasteOf_RX5 0 rfl rfl 1 (by decide) (List.mem_of_getElem? (i := 2) rfl) rfl (v := .ref ht) rfl dX5_tasteOf_6 ?_
  refine g_callW (w2 := (fun (fp2_1 : Nat → Int32) => [(hb, .inr (5, [.ref hp, .ref ht, .ref hg, .ref ha, .ref hq])), (hp, .inr (2, [.ref p0, .ref p1, .ref p2, .ref p3, .ref p4])), (p0, .inl (cI, 12, .inl (fun _ => (0 : Int32)))), (p1, .inl (cI, 12, .inl (fun _ => (0 : Int32)))), (p2, .inl (cI, 12, .inl (fun _ => (0 : Int32)))), (p3, .inl (cI, 24, .inl (fun _ => (-1 : Int32)))), (p4, .inl (cZ, 12, .inl (fun _ => (0 : Int32)))), (ht, .inr (4, [.ref t0, .int (1 : Int32), .int (1 : Int32), .long (2 : Int64)])), (t0, .inl (cI, 30, .inl fp2_1)), (ha, .inr (0, [.ref a0, .ref a1, .ref a2, .ref a3, .int (0 : Int32), .long (0 : Int64)])), (a0, .inl (cI, 41, .inl fa0)), (a1, .inl (cI, 41, .inl fa1)), (a3, .inl (cL, 41, .inr (.inl fa3)))])) (g_runV (q0 := 1) (ci := 2) B hK rfl rfl (k_follow l (D := D) (cI := cI) (cL := cL) (cZ := cZ) hp p0 p1 p2 p3 p4 ht t0 fp ts tr tf t (by omega)) (gPw.pre (av := [.ref hp, .int (nI t), .ref ht]) (wc := [(hp, .inr (2, [.ref p0, .ref p1, .ref p2, .ref p3, .ref p4])), (p0, .inl (cI, 12, .inl (fun _ => (0 : Int32)))), (p1, .inl (cI, 12, .inl (fun _ => (0 : Int32)))), (p2, .inl (cI, 12, .inl (fun _ => (0 : Int32)))), (p3, .inl (cI, 24, .inl (fun _ => (-1 : Int32)))), (p4, .inl (cZ, 12, .inl (fun _ => (0 : Int32)))), (ht, .inr (4, [.ref t0, .int ts, .int tr, .long tf])), (t0, .inl (cI, 30, .inl fp))]) hK hN [1, 2, 3, 4, 5, 6, 7, 8] rfl (by decide)) gX5_tasteOf_X2_follow rfl rfl kd_X2_follow ⟨by decide, by decide⟩ (st := []) rfl (Nat.le_of_ble_eq_true rfl) dX5_tasteOf_9 ⟨by decide, by decide⟩) hA (fun _ h => h) [1, 2, 3, 4, 5, 6, 7, 8] [0, 9, 10, 11, 12] (wr := [(hb, .inr (5, [.ref hp, .ref ht, .ref hg, .ref ha, .ref hq])), (ha, .inr (0, [.ref a0, .ref a1, .ref a2, .ref a3, .int (0 : Int32), .long (0 : Int64)])), (a0, .inl (cI, 41, .inl fa0)), (a1, .inl (cI, 41, .inl fa1)), (a3, .inl (cL, 41, .inr (.inl fa3)))]) rfl rfl (by decide) (by decide) [0, 5, 6, 7, 8, 9, 10, 11, 12, 1, 2, 3, 4] (by decide) (fun _ => rfl) (fun u hu => ?_)
  obtain ⟨fp2_1, e9⟩ : ∃ z, z = u := ⟨_, rfl⟩; subst e9
  try dsimp only at hu ⊢
  have hu1 := hu
  refine g_aload_n B dX5_tasteOf_12 0 rfl ?_
  refine g_get (C := RX5) (T := TX5) (N := 5) (ci := 5) B hK hin_X5_tasteOf_RX5 0 rfl rfl 3 (by decide) (List.mem_of_getElem? (i := 3) rfl) rfl (v := .ref ha) rfl dX5_tasteOf_13 ?_
  refine g_aload_n B dX5_tasteOf_16 0 rfl ?_
  refine g_get (C := RX5) (T := TX5) (N := 5) (ci := 5) B hK hin_X5_tasteOf_RX5 0 rfl rfl 3 (by decide) (List.mem_of_getElem? (i := 3) rfl) rfl (v := .ref ha) rfl dX5_tasteOf_17 ?_
  refine g_iload_n B dX5_tasteOf_20 1 rfl ?_
  refine g_aload_n B dX5_tasteOf_21 0 rfl ?_
  refine g_get (C := RX5) (T := TX5) (N := 5) (ci := 5) B hK hin_X5_tasteOf_RX5 0 rfl rfl 1 (by decide) (List.mem_of_getElem? (i := 2) rfl) rfl (v := .ref ht) rfl dX5_tasteOf_22 ?_
  refine g_callW (w2 := (fun (_ : Unit) => [(hb, .inr (5, [.ref hp, .ref ht, .ref hg, .ref ha, .ref hq])), (hp, .inr (2, [.ref p0, .ref p1, .ref p2, .ref p3, .ref p4])), (p0, .inl (cI, 12, .inl (fun _ => (0 : Int32)))), (p1, .inl (cI, 12, .inl (fun _ => (0 : Int32)))), (p2, .inl (cI, 12, .inl (fun _ => (0 : Int32)))), (p3, .inl (cI, 24, .inl (fun _ => (-1 : Int32)))), (p4, .inl (cZ, 12, .inl (fun _ => (0 : Int32)))), (ht, .inr (4, [.ref t0, .int (1 : Int32), .int (1 : Int32), .long (2 : Int64)])), (t0, .inl (cI, 30, .inl fp2_1)), (ha, .inr (0, [.ref a0, .ref a1, .ref a2, .ref a3, .int (0 : Int32), .long (0 : Int64)])), (a0, .inl (cI, 41, .inl (upd fa0 0 (nI t)))), (a1, .inl (cI, 41, .inl (upd fa1 0 (1 : Int32)))), (a3, .inl (cL, 41, .inr (.inl (vp_updL fa3 0 (2 : Int64)))))])) (g_runV (q0 := 9) (ci := 0) B hK rfl rfl (k_keptIfTasted l (D := D) (cI := cI) (cL := cL) (cZ := cZ) ha a0 a1 a2 a3 fa0 fa1 fa3 ht t0 t (by omega)) (gPw.pre (av := [.ref ha, .int (nI t), .ref ht]) (wc := [(ha, .inr (0, [.ref a0, .ref a1, .ref a2, .ref a3, .int (0 : Int32), .long (0 : Int64)])), (a0, .inl (cI, 41, .inl fa0)), (a1, .inl (cI, 41, .inl fa1)), (a3, .inl (cL, 41, .inr (.inl fa3))), (ht, .inr (4, [.ref t0, .int (1 : Int32), .int (1 : Int32), .long (2 : Int64)]))]) hK hN [9, 10, 11, 12, 7] rfl (by decide)) gX5_tasteOf_X0_keptIfTasted rfl rfl kd_X0_keptIfTasted ⟨by decide, by decide⟩ (st := [.ref ha]) rfl (Nat.le_of_ble_eq_true rfl) dX5_tasteOf_25 ⟨by decide, by decide⟩) hA (fun _ h => h) [9, 10, 11, 12, 7] [0, 1, 2, 3, 4, 5, 6, 8] (wr := [(hb, .inr (5, [.ref hp, .ref ht, .ref hg, .ref ha, .ref hq])), (hp, .inr (2, [.ref p0, .ref p1, .ref p2, .ref p3, .ref p4])), (p0, .inl (cI, 12, .inl (fun _ => (0 : Int32)))), (p1, .inl (cI, 12, .inl (fun _ => (0 : Int32)))), (p2, .inl (cI, 12, .inl (fun _ => (0 : Int32)))), (p3, .inl (cI, 24, .inl (fun _ => (-1 : Int32)))), (p4, .inl (cZ, 12, .inl (fun _ => (0 : Int32)))), (t0, .inl (cI, 30, .inl fp2_1))]) rfl rfl (by decide) (by decide) [0, 1, 2, 3, 4, 5, 6, 12, 7, 8, 9, 10, 11] (by decide) (fun _ => rfl) (fun u hu => ?_)
  refine g_callW (w2 := (fun (_ : Unit) => [(hb, .inr (5, [.ref hp, .ref ht, .ref hg, .ref ha, .ref hq])), (hp, .inr (2, [.ref p0, .ref p1, .ref p2, .ref p3, .ref p4])), (p0, .inl (cI, 12, .inl (fun _ => (0 : Int32)))), (p1, .inl (cI, 12, .inl (fun _ => (0 : Int32)))), (p2, .inl (cI, 12, .inl (fun _ => (0 : Int32)))), (p3, .inl (cI, 24, .inl (fun _ => (-1 : Int32)))), (p4, .inl (cZ, 12, .inl (fun _ => (0 : Int32)))), (ht, .inr (4, [.ref t0, .int (1 : Int32), .int (1 : Int32), .long (2 : Int64)])), (t0, .inl (cI, 30, .inl fp2_1)), (ha, .inr (0, [.ref a0, .ref a1, .ref a2, .ref a3, .int (1 : Int32), .long (1 : Int64)])), (a0, .inl (cI, 41, .inl (upd fa0 0 (nI t)))), (a1, .inl (cI, 41, .inl (upd fa1 0 (1 : Int32)))), (a3, .inl (cL, 41, .inr (.inl (vp_updL fa3 0 (2 : Int64)))))])) (g_runV (q0 := 9) (ci := 0) B hK rfl rfl (k_take l (D := D) (cI := cI) (cL := cL) (cZ := cZ) ha a0 a1 a2 a3 ) (gPw.pre (av := [.ref ha, .long (1 : Int64)]) (wc := [(ha, .inr (0, [.ref a0, .ref a1, .ref a2, .ref a3, .int (0 : Int32), .long (0 : Int64)]))]) hK hN [9] rfl (by decide)) gX5_tasteOf_X0_take rfl rfl kd_X0_take ⟨by decide, by decide⟩ (st := []) rfl (Nat.le_of_ble_eq_true rfl) dX5_tasteOf_28 ⟨by decide, by decide⟩) hA (fun _ h => h) [9] [0, 1, 2, 3, 4, 5, 6, 7, 8, 10, 11, 12] (wr := [(hb, .inr (5, [.ref hp, .ref ht, .ref hg, .ref ha, .ref hq])), (hp, .inr (2, [.ref p0, .ref p1, .ref p2, .ref p3, .ref p4])), (p0, .inl (cI, 12, .inl (fun _ => (0 : Int32)))), (p1, .inl (cI, 12, .inl (fun _ => (0 : Int32)))), (p2, .inl (cI, 12, .inl (fun _ => (0 : Int32)))), (p3, .inl (cI, 24, .inl (fun _ => (-1 : Int32)))), (p4, .inl (cZ, 12, .inl (fun _ => (0 : Int32)))), (ht, .inr (4, [.ref t0, .int (1 : Int32), .int (1 : Int32), .long (2 : Int64)])), (t0, .inl (cI, 30, .inl fp2_1)), (a0, .inl (cI, 41, .inl (upd fa0 0 (nI t)))), (a1, .inl (cI, 41, .inl (upd fa1 0 (1 : Int32)))), (a3, .inl (cL, 41, .inr (.inl (vp_updL fa3 0 (2 : Int64)))))]) rfl rfl (by decide) (by decide) [0, 1, 2, 3, 4, 5, 6, 7, 8, 12, 9, 10, 11] (by decide) (fun _ => rfl) (fun u hu => ?_)
  refine g_aload_n B dX5_tasteOf_31 0 rfl ?_
  refine g_get (C := RX5) (T := TX5) (N := 5) (ci := 5) B hK hin_X5_tasteOf_RX5 0 rfl rfl 3 (by decide) (List.mem_of_getElem? (i := 3) rfl) rfl (v := .ref ha) rfl dX5_tasteOf_32 ?_
  refine g_iload_n B dX5_tasteOf_35 1 rfl ?_
  refine g_callP (g_runV (q0 := 9) (ci := 0) B hK rfl rfl (PM.met (k_numberOf_1 l (D := D) (cI := cI) (cL := cL) (cZ := cZ) ha a0 a1 a2 a3 fa0 t (by omega))) (gPp.pre (av := [.ref ha, .int (nI t)]) (wc := [(ha, .inr (0, [.ref a0, .ref a1, .ref a2, .ref a3, .int (1 : Int32), .long (1 : Int64)])), (a0, .inl (cI, 41, .inl (upd fa0 0 (nI t))))]) hK hN [9, 10] rfl (by decide)) gX5_tasteOf_X0_numberOf rfl rfl kd_X0_numberOf ⟨by decide, by decide⟩ (st := []) rfl (Nat.le_of_ble_eq_true rfl) dX5_tasteOf_36 ⟨by decide, by decide⟩) (fun u hu => ?_)
  exact g_iret_w B hr rfl hlocks () (rfl) (trivial) [0] (by decide) rfl dX5_tasteOf_39

set_option maxHeartbeats 4000000 in
set_option maxRecDepth 100000 in
theorem k_fewestFrom_0 (l : Launch) {D : va_G} {cI cL cZ : ClassId} (a3 : Nat)  : PM l yX5_fewestFrom wsX5_fewestFrom ({ frames := 1, cells := 0, slots := 0, locals := 21 } : Room) D (gTys cI cL cZ) [.ref a3, .int (0 : Int32), .int (0 : Int32), .long (0 : Int64), .int (0 : Int32), .int (0 : Int32)] [] (fun (_ : Unit) => True) (fun (_ : Unit) => some (.int (0 : Int32))) := by
  refine PM.ofG cX5_fewestFrom 8 (some .int) (by decide +kernel) rfl (Nat.le_of_ble_eq_true rfl) ?_
  intro p e s m below meth c B hr hlocks hname hK hN
  refine g_lload_n B dX5_fewestFrom_0 3 rfl ?_
  refine g_lconst (v := (0 : Int64)) B dX5_fewestFrom_1 rfl ?_
  refine g_lcmp (v := (0 : Int32)) B dX5_fewestFrom_2 (by decide) ?_
  refine g_if_ne (tgt := 14) B dX5_fewestFrom_3 (by decide) (fun c1 => absurd (by decide) c1) (fun _ => ?_)
  refine g_iload B dX5_fewestFrom_6 4 rfl ?_
  refine g_iload B dX5_fewestFrom_8 5 rfl ?_
  refine g_mmin (v := (0 : Int32)) B (List.mem_of_getElem? (i := 1) rfl) (List.mem_of_getElem? (i := 2) rfl) (List.mem_of_getElem? (i := 3) rfl) (List.mem_of_getElem? (i := 4) rfl) (by decide) (by decide) (by decide) (by decide) dX5_fewestFrom_10 (by decide) ?_
  exact g_iret_p B hr rfl hlocks () (rfl) (trivial) dX5_fewestFrom_13

