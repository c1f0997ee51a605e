/-! the class: statics -/
theorem kd_J13_bitCount_95d88 : yJ13_bitCount_95d88.cls ≠ "java/lang/invoke/MethodHandle" ∧ yJ13_bitCount_95d88.cls ≠ "java/lang/invoke/VarHandle" ∧ (parseMethodDescriptor yJ13_bitCount_95d88.desc).map (fun d => d.parameters.length) = some 1 := by decide +kernel
set_option maxHeartbeats 4000000 in
set_option maxRecDepth 100000 in
theorem c_X5_bit (l : Launch) {D : va_G} {cI cL cZ : ClassId} (k : Nat) (hk : k < 64) : PM l yX5_bit wsX5_bit ({ frames := 0, cells := 0, slots := 0, locals := 0 } : Room) D (gTys cI cL cZ) [.int (nI k)] [] (fun (r : Int64) => r = lShl 1 (nI k)) (fun (r : Int64) => some (.long r)) := by
  refine PM.ofG cX5_bit 1 (some .long) (by decide +kernel) rfl (Nat.le_of_ble_eq_true rfl) ?_
  intro p e s m below meth c B hr hlocks hname hK hN
  refine g_lconst (v := (1 : Int64)) B dX5_bit_0 rfl ?_
  refine g_iload_n B dX5_bit_1 0 rfl ?_
  refine g_lshl (v := lShl (1 : Int64) (nI k)) B dX5_bit_2 (rfl) ?_
  exact g_lret_p B hr hlocks (lShl (1 : Int64) (nI k)) (rfl) (rfl) dX5_bit_3

set_option maxHeartbeats 4000000 in
set_option maxRecDepth 100000 in
theorem c_X5_isNode_m (l : Launch) {D : va_G} {cI cL cZ : ClassId}   : PM l yX5_isNode wsX5_isNode ({ frames := 0, cells := 0, slots := 0, locals := 0 } : Room) D (gTys cI cL cZ) [.int (-1 : Int32)] [] (fun (_ : Unit) => True) (fun (_ : Unit) => some (.int (0 : Int32))) := by
  refine PM.ofG cX5_isNode 1 (some .boolean) (by decide +kernel) rfl (Nat.le_of_ble_eq_true rfl) ?_
  intro p e s m below meth c B hr hlocks hname hK hN
  refine g_iload_n B dX5_isNode_0 0 rfl ?_
  refine g_if_lt (tgt := 14) B dX5_isNode_1 (by decide) (fun _ => ?_) (fun c1 => absurd (by decide) c1)
  refine g_iconst (v := (0 : Int32)) B dX5_isNode_14 (by decide) ?_
  exact g_iret_p B hr rfl hlocks () (rfl) (trivial) dX5_isNode_15

set_option maxHeartbeats 4000000 in
set_option maxRecDepth 100000 in
theorem c_X5_isNode_n (l : Launch) {D : va_G} {cI cL cZ : ClassId} (k : Nat) (hk : k < 12) : PM l yX5_isNode wsX5_isNode ({ frames := 0, cells := 0, slots := 0, locals := 0 } : Room) D (gTys cI cL cZ) [.int (nI k)] [] (fun (_ : Unit) => True) (fun (_ : Unit) => some (.int (1 : Int32))) := by
  refine PM.ofG cX5_isNode 1 (some .boolean) (by decide +kernel) rfl (Nat.le_of_ble_eq_true rfl) ?_
  intro p e s m below meth c B hr hlocks hname hK hN
  refine g_iload_n B dX5_isNode_0 0 rfl ?_
  refine g_nif_lt (tgt := 14) B k rfl (by omega) dX5_isNode_1 (by decide) ?_
  refine g_iload_n B dX5_isNode_4 0 rfl ?_
  refine g_bipush (v := (12 : Int32)) B dX5_isNode_5 (by decide) ?_
  refine g_ncmp_ge (tgt := 14) B k 12 rfl rfl (by omega) (by omega) dX5_isNode_7 (by decide) (fun c1 => ?_) (fun c1 => ?_)
  · exfalso; omega
  refine g_iconst (v := (1 : Int32)) B dX5_isNode_10 (by decide) ?_
  refine g_goto (tgt := 15) B dX5_isNode_11 (by decide) ?_
  exact g_iret_p B hr rfl hlocks () (rfl) (trivial) dX5_isNode_15

set_option maxHeartbeats 4000000 in
set_option maxRecDepth 100000 in
theorem c_X5_valueOf_a (l : Launch) {D : va_G} {cI cL cZ : ClassId} (t : Nat) (ht : t < 10000) : PM l yX5_valueOf wsX5_valueOf ({ frames := 0, cells := 0, slots := 0, locals := 0 } : Room) D (gTys cI cL cZ) [.int (nI t), .int (0 : Int32)] [] (fun (r : Int32) => r = nI (t / 1000 % 10)) (fun (r : Int32) => some (.int r)) := by
  refine PM.ofG cX5_valueOf 2 (some .int) (by decide +kernel) rfl (Nat.le_of_ble_eq_true rfl) ?_
  intro p e s m below meth c B hr hlocks hname hK hN
  refine g_iload_n B dX5_valueOf_0 1 rfl ?_
  refine g_tableIn (off := 27) (tgt := 28) B dX5_valueOf_1 (by decide) (by decide) (by decide) (by decide) ?_
  refine g_iload_n B dX5_valueOf_28 0 rfl ?_
  refine g_sipush (v := (1000 : Int32)) B dX5_valueOf_29 (by decide) ?_
  refine g_idiv (v := nI (t / 1000)) B dX5_valueOf_32 (by decide) (pk_div (a := t) (d := 1000) (by omega) (by decide) (by decide)) ?_
  refine g_bipush (v := (10 : Int32)) B dX5_valueOf_33 (by decide) ?_
  refine g_irem (v := nI ((t / 1000) % 10)) B dX5_valueOf_35 (by decide) (pk_rem (a := t / 1000) (d := 10) (by omega) (by decide) (by decide)) ?_
  exact g_iret_p B hr rfl hlocks (nI ((t / 1000) % 10)) (rfl) (rfl) dX5_valueOf_36

set_option maxHeartbeats 4000000 in
set_option maxRecDepth 100000 in
theorem c_X5_valueOf_b (l : Launch) {D : va_G} {cI cL cZ : ClassId} (t : Nat) (ht : t < 10000) : PM l yX5_valueOf wsX5_valueOf ({ frames := 0, cells := 0, slots := 0, locals := 0 } : Room) D (gTys cI cL cZ) [.int (nI t), .int (1 : Int32)] [] (fun (r : Int32) => r = nI (t / 100 % 10)) (fun (r : Int32) => some (.int r)) := by
  refine PM.ofG cX5_valueOf 2 (some .int) (by decide +kernel) rfl (Nat.le_of_ble_eq_true rfl) ?_
  intro p e s m below meth c B hr hlocks hname hK hN
  refine g_iload_n B dX5_valueOf_0 1 rfl ?_
  refine g_tableIn (off := 36) (tgt := 37) B dX5_valueOf_1 (by decide) (by decide) (by decide) (by decide) ?_
  refine g_iload_n B dX5_valueOf_37 0 rfl ?_
  refine g_bipush (v := (100 : Int32)) B dX5_valueOf_38 (by decide) ?_
  refine g_idiv (v := nI (t / 100)) B dX5_valueOf_40 (by decide) (pk_div (a := t) (d := 100) (by omega) (by decide) (by decide)) ?_
  refine g_bipush (v := (10 : Int32)) B dX5_valueOf_41 (by decide) ?_
  refine g_irem (v := nI ((t / 100) % 10)) B dX5_valueOf_43 (by decide) (pk_rem (a := t / 100) (d := 10) (by omega) (by decide) (by decide)) ?_
  exact g_iret_p B hr rfl hlocks (nI ((t / 100) % 10)) (rfl) (rfl) dX5_valueOf_44

set_option maxHeartbeats 4000000 in
set_option maxRecDepth 100000 in
theorem c_X5_valueOf_c (l : Launch) {D : va_G} {cI cL cZ : ClassId} (t : Nat) (ht : t < 10000) : PM l yX5_valueOf wsX5_valueOf ({ frames := 0, cells := 0, slots := 0, locals := 0 } : Room) D (gTys cI cL cZ) [.int (nI t), .int (2 : Int32)] [] (fun (r : Int32) => r = nI (t / 10 % 10)) (fun (r : Int32) => some (.int r)) := by
  refine PM.ofG cX5_valueOf 2 (some .int) (by decide +kernel) rfl (Nat.le_of_ble_eq_true rfl) ?_
  intro p e s m below meth c B hr hlocks hname hK hN
  refine g_iload_n B dX5_valueOf_0 1 rfl ?_
  refine g_tableIn (off := 44) (tgt := 45) B dX5_valueOf_1 (by decide) (by decide) (by decide) (by decide) ?_
  refine g_iload_n B dX5_valueOf_45 0 rfl ?_
  refine g_bipush (v := (10 : Int32)) B dX5_valueOf_46 (by decide) ?_
  refine g_idiv (v := nI (t / 10)) B dX5_valueOf_48 (by decide) (pk_div (a := t) (d := 10) (by omega) (by decide) (by decide)) ?_
  refine g_bipush (v := (10 : Int32)) B dX5_valueOf_49 (by decide) ?_
  refine g_irem (v := nI ((t / 10) % 10)) B dX5_valueOf_51 (by decide) (pk_rem (a := t / 10) (d := 10) (by omega) (by decide) (by decide)) ?_
  exact g_iret_p B hr rfl hlocks (nI ((t / 10) % 10)) (rfl) (rfl) dX5_valueOf_52

set_option maxHeartbeats 4000000 in
set_option maxRecDepth 100000 in
theorem c_X5_valueOf_d (l : Launch) {D : va_G} {cI cL cZ : ClassId} (t : Nat) (ht : t < 10000) : PM l yX5_valueOf wsX5_valueOf ({ frames := 0, cells := 0, slots := 0, locals := 0 } : Room) D (gTys cI cL cZ) [.int (nI t), .int (3 : Int32)] [] (fun (r : Int32) => r = nI (t % 10)) (fun (r : Int32) => some (.int r)) := by
  refine PM.ofG cX5_valueOf 2 (some .int) (by decide +kernel) rfl (Nat.le_of_ble_eq_true rfl) ?_
  intro p e s m below meth c B hr hlocks hname hK hN
  refine g_iload_n B dX5_valueOf_0 1 rfl ?_
  refine g_tableOut (tgt := 53) B dX5_valueOf_1 (by decide) (by decide) ?_
  refine g_iload_n B dX5_valueOf_53 0 rfl ?_
  refine g_bipush (v := (10 : Int32)) B dX5_valueOf_54 (by decide) ?_
  refine g_irem (v := nI (t % 10)) B dX5_valueOf_56 (by decide) (pk_rem (a := t) (d := 10) (by omega) (by decide) (by decide)) ?_
  exact g_iret_p B hr rfl hlocks (nI (t % 10)) (rfl) (rfl) dX5_valueOf_57

set_option maxHeartbeats 4000000 in
set_option maxRecDepth 100000 in
theorem c_X5_contains (l : Launch) {D : va_G} {cI cL cZ : ClassId} (S : Int64) (k : Nat) (hk : k < 64) : PM l yX5_contains wsX5_contains ({ frames := 0, cells := 0, slots := 0, locals := 0 } : Room) D (gTys cI cL cZ) [.long S, .int (nI k)] [] (fun (r : Int32) => r = bI (hasB S k)) (fun (r : Int32) => some (.int r)) := by
  refine PM.ofG cX5_contains 3 (some .boolean) (by decide +kernel) rfl (Nat.le_of_ble_eq_true rfl) ?_
  intro p e s m below meth c B hr hlocks hname hK hN
  refine g_lload_n B dX5_contains_0 0 rfl ?_
  refine g_iload_n B dX5_contains_1 1 rfl ?_
  refine g_lushr (v := lShr S (nI k)) B dX5_contains_2 (rfl) ?_
  refine g_lconst (v := (1 : Int64)) B dX5_contains_3 rfl ?_
  refine g_land (v := (lShr S (nI k) &&& (1 : Int64))) B dX5_contains_4 (rfl) ?_
  refine g_lconst (v := (0 : Int64)) B dX5_contains_5 rfl ?_
  refine g_lcmp (v := (lg_cmp (lShr S (nI k) &&& (1 : Int64)) (0 : Int64))) B dX5_contains_6 rfl ?_
  refine g_if_eq (tgt := 14) B dX5_contains_7 (by decide) (fun c1 => ?_) (fun c1 => ?_)
  · refine g_iconst (v := (0 : Int32)) B dX5_contains_14 (by decide) ?_
    exact g_iret_p B hr rfl hlocks (0 : Int32) (rfl) (by simp [hasB, (lg_eq0 _ _).symm, c1, bI]) dX5_contains_15
  · refine g_iconst (v := (1 : Int32)) B dX5_contains_10 (by decide) ?_
    refine g_goto (tgt := 15) B dX5_contains_11 (by decide) ?_
    exact g_iret_p B hr rfl hlocks (1 : Int32) (rfl) (by simp [hasB, (lg_eq0 _ _).symm, c1, bI]) dX5_contains_15

set_option maxHeartbeats 4000000 in
set_option maxRecDepth 100000 in
theorem c_bitCount_0 (l : Launch) {D : va_G} {cI cL cZ : ClassId}   : PM l yJ13_bitCount_95d88 wsJ13_bitCount_95d88 ({ frames := 0, cells := 0, slots := 0, locals := 0 } : Room) D (gTys cI cL cZ) [.long (0 : Int64)] [] (fun (_ : Unit) => True) (fun (_ : Unit) => some (.int (0 : Int32))) := by
  refine PM.ofG cJ13_bitCount_95d88 2 (some .int) (by decide +kernel) rfl (Nat.le_of_ble_eq_true rfl) ?_
  intro p e s m below meth c B hr hlocks hname hK hN
  refine g_lload_n B dJ13_bitCount_95d88_0 0 rfl ?_
  refine g_lload_n B dJ13_bitCount_95d88_1 0 rfl ?_
  refine g_iconst (v := (1 : Int32)) B dJ13_bitCount_95d88_2 (by decide) ?_
  refine g_lushr (v := (0 : Int64)) B dJ13_bitCount_95d88_3 (by decide) ?_
  refine g_ldc2 (v := (6148914691236517205 : Int64)) B dJ13_bitCount_95d88_4 (List.mem_of_getElem? (i := 1) rfl) ?_
  refine g_land (v := (0 : Int64)) B dJ13_bitCount_95d88_7 (by decide) ?_
  refine g_lsub (v := (0 : Int64)) B dJ13_bitCount_95d88_8 (by decide) ?_
  refine g_lstore_n (lv' := [(0, .long (0 : Int64))]) B dJ13_bitCount_95d88_9 rfl (by decide) [0] rfl ?_
  refine g_lload_n B dJ13_bitCount_95d88_10 0 rfl ?_
  refine g_ldc2 (v := (3689348814741910323 : Int64)) B dJ13_bitCount_95d88_11 (List.mem_of_getElem? (i := 2) rfl) ?_
  refine g_land (v := (0 : Int64)) B dJ13_bitCount_95d88_14 (by decide) ?_
  refine g_lload_n B dJ13_bitCount_95d88_15 0 rfl ?_
  refine g_iconst (v := (2 : Int32)) B dJ13_bitCount_95d88_16 (by decide) ?_
  refine g_lushr (v := (0 : Int64)) B dJ13_bitCount_95d88_17 (by decide) ?_
  refine g_ldc2 (v := (3689348814741910323 : Int64)) B dJ13_bitCount_95d88_18 (List.mem_of_getElem? (i := 2) rfl) ?_
  refine g_land (v := (0 : Int64)) B dJ13_bitCount_95d88_21 (by decide) ?_
  refine g_ladd (v := (0 : Int64)) B dJ13_bitCount_95d88_22 (by decide) ?_
  refine g_lstore_n (lv' := [(0, .long (0 : Int64))]) B dJ13_bitCount_95d88_23 rfl (by decide) [0] rfl ?_
  refine g_lload_n B dJ13_bitCount_95d88_24 0 rfl ?_
  refine g_lload_n B dJ13_bitCount_95d88_25 0 rfl ?_
  refine g_iconst (v := (4 : Int32)) B dJ13_bitCount_95d88_26 (by decide) ?_
  refine g_lushr (v := (0 : Int64)) B dJ13_bitCount_95d88_27 (by decide) ?_
  refine g_ladd (v := (0 : Int64)) B dJ13_bitCount_95d88_28 (by decide) ?_
  refine g_ldc2 (v := (1085102592571150095 : Int64)) B dJ13_bitCount_95d88_29 (List.mem_of_getElem? (i := 3) rfl) ?_
  refine g_land (v := (0 : Int64)) B dJ13_bitCount_95d88_32 (by decide) ?_
  refine g_lstore_n (lv' := [(0, .long (0 : Int64))]) B dJ13_bitCount_95d88_33 rfl (by decide) [0] rfl ?_
  refine g_lload_n B dJ13_bitCount_95d88_34 0 rfl ?_
  refine g_lload_n B dJ13_bitCount_95d88_35 0 rfl ?_
  refine g_bipush (v := (8 : Int32)) B dJ13_bitCount_95d88_36 (by decide) ?_
  refine g_lushr (v := (0 : Int64)) B dJ13_bitCount_95d88_38 (by decide) ?_
  refine g_ladd (v := (0 : Int64)) B dJ13_bitCount_95d88_39 (by decide) ?_
  refine g_lstore_n (lv' := [(0, .long (0 : Int64))]) B dJ13_bitCount_95d88_40 rfl (by decide) [0] rfl ?_
  refine g_lload_n B dJ13_bitCount_95d88_41 0 rfl ?_
  refine g_lload_n B dJ13_bitCount_95d88_42 0 rfl ?_
  refine g_bipush (v := (16 : Int32)) B dJ13_bitCount_95d88_43 (by decide) ?_
  refine g_lushr (v := (0 : Int64)) B dJ13_bitCount_95d88_45 (by decide) ?_
  refine g_ladd (v := (0 : Int64)) B dJ13_bitCount_95d88_46 (by decide) ?_
  refine g_lstore_n (lv' := [(0, .long (0 : Int64))]) B dJ13_bitCount_95d88_47 rfl (by decide) [0] rfl ?_
  refine g_lload_n B dJ13_bitCount_95d88_48 0 rfl ?_
  refine g_lload_n B dJ13_bitCount_95d88_49 0 rfl ?_
  refine g_bipush (v := (32 : Int32)) B dJ13_bitCount_95d88_50 (by decide) ?_
  refine g_lushr (v := (0 : Int64)) B dJ13_bitCount_95d88_52 (by decide) ?_
  refine g_ladd (v := (0 : Int64)) B dJ13_bitCount_95d88_53 (by decide) ?_
  refine g_lstore_n (lv' := [(0, .long (0 : Int64))]) B dJ13_bitCount_95d88_54 rfl (by decide) [0] rfl ?_
  refine g_lload_n B dJ13_bitCount_95d88_55 0 rfl ?_
  refine g_l2i (v := (0 : Int32)) B dJ13_bitCount_95d88_56 (by decide) ?_
  refine g_bipush (v := (127 : Int32)) B dJ13_bitCount_95d88_57 (by decide) ?_
  refine g_iand (v := (0 : Int32)) B dJ13_bitCount_95d88_59 (by decide) ?_
  exact g_iret_p B hr rfl hlocks () (rfl) (trivial) dJ13_bitCount_95d88_60

set_option maxHeartbeats 4000000 in
set_option maxRecDepth 100000 in
theorem c_edgesIn_0 (l : Launch) {D : va_G} {cI cL cZ : ClassId}   : PM l yX5_edgesIn wsX5_edgesIn ({ frames := 1, cells := 0, slots := 0, locals := 21 } : Room) D (gTys cI cL cZ) [.long (0 : Int64)] [] (fun (_ : Unit) => True) (fun (_ : Unit) => some (.int (0 : Int32))) := by
  refine PM.ofG cX5_edgesIn 2 (some .int) (by decide +kernel) rfl (Nat.le_of_ble_eq_true rfl) ?_
  intro p e s m below meth c B hr hlocks hname hK hN
  refine g_lload_n B dX5_edgesIn_0 0 rfl ?_
  refine g_ldc2 (v := (16777215 : Int64)) B dX5_edgesIn_1 (List.mem_of_getElem? (i := 1) rfl) ?_
  refine g_land (v := (0 : Int64)) B dX5_edgesIn_4 (by decide) ?_
  refine g_callP (g_runS B (PM.met (c_bitCount_0 l (D := D) (cI := cI) (cL := cL) (cZ := cZ)  )) (gPp.pre (av := [.long (0 : Int64)]) (wc := []) hK hN [] rfl (by decide)) gX5_edgesIn_J13_bitCount_95d88 rfl kd_J13_bitCount_95d88 ⟨by decide, by decide⟩ (st := []) rfl (Nat.le_of_ble_eq_true rfl) dX5_edgesIn_5 ⟨by decide, by decide⟩) (fun u hu => ?_)
  exact g_iret_p B hr rfl hlocks () (rfl) (trivial) dX5_edgesIn_8

set_option maxHeartbeats 4000000 in
set_option maxRecDepth 100000 in
theorem c_bitCount_1 (l : Launch) {D : va_G} {cI cL cZ : ClassId}   : PM l yJ13_bitCount_95d88 wsJ13_bitCount_95d88 ({ frames := 0, cells := 0, slots := 0, locals := 0 } : Room) D (gTys cI cL cZ) [.long (1 : Int64)] [] (fun (_ : Unit) => True) (fun (_ : Unit) => some (.int (1 : Int32))) := by
  refine PM.ofG cJ13_bitCount_95d88 2 (some .int) (by decide +kernel) rfl (Nat.le_of_ble_eq_true rfl) ?_
  intro p e s m below meth c B hr hlocks hname hK hN
  refine g_lload_n B dJ13_bitCount_95d88_0 0 rfl ?_
  refine g_lload_n B dJ13_bitCount_95d88_1 0 rfl ?_
  refine g_iconst (v := (1 : Int32)) B dJ13_bitCount_95d88_2 (by decide) ?_
  refine g_lushr (v := (0 : Int64)) B dJ13_bitCount_95d88_3 (by decide) ?_
  refine g_ldc2 (v := (6148914691236517205 : Int64)) B dJ13_bitCount_95d88_4 (List.mem_of_getElem? (i := 1) rfl) ?_
  refine g_land (v := (0 : Int64)) B dJ13_bitCount_95d88_7 (by decide) ?_
  refine g_lsub (v := (1 : Int64)) B dJ13_bitCount_95d88_8 (by decide) ?_
  refine g_lstore_n (lv' := [(0, .long (1 : Int64))]) B dJ13_bitCount_95d88_9 rfl (by decide) [0] rfl ?_
  refine g_lload_n B dJ13_bitCount_95d88_10 0 rfl ?_
  refine g_ldc2 (v := (3689348814741910323 : Int64)) B dJ13_bitCount_95d88_11 (List.mem_of_getElem? (i := 2) rfl) ?_
  refine g_land (v := (1 : Int64)) B dJ13_bitCount_95d88_14 (by decide) ?_
  refine g_lload_n B dJ13_bitCount_95d88_15 0 rfl ?_
  refine g_iconst (v := (2 : Int32)) B dJ13_bitCount_95d88_16 (by decide) ?_
  refine g_lushr (v := (0 : Int64)) B dJ13_bitCount_95d88_17 (by decide) ?_
  refine g_ldc2 (v := (3689348814741910323 : Int64)) B dJ13_bitCount_95d88_18 (List.mem_of_getElem? (i := 2) rfl) ?_
  refine g_land (v := (0 : Int64)) B dJ13_bitCount_95d88_21 (by decide) ?_
  refine g_ladd (v := (1 : Int64)) B dJ13_bitCount_95d88_22 (by decide) ?_
  refine g_lstore_n (lv' := [(0, .long (1 : Int64))]) B dJ13_bitCount_95d88_23 rfl (by decide) [0] rfl ?_
  refine g_lload_n B dJ13_bitCount_95d88_24 0 rfl ?_
  refine g_lload_n B dJ13_bitCount_95d88_25 0 rfl ?_
  refine g_iconst (v := (4 : Int32)) B dJ13_bitCount_95d88_26 (by decide) ?_
  refine g_lushr (v := (0 : Int64)) B dJ13_bitCount_95d88_27 (by decide) ?_
  refine g_ladd (v := (1 : Int64)) B dJ13_bitCount_95d88_28 (by decide) ?_
  refine g_ldc2 (v := (1085102592571150095 : Int64)) B dJ13_bitCount_95d88_29 (List.mem_of_getElem? (i := 3) rfl) ?_
  refine g_land (v := (1 : Int64)) B dJ13_bitCount_95d88_32 (by decide) ?_
  refine g_lstore_n (lv' := [(0, .long (1 : Int64))]) B dJ13_bitCount_95d88_33 rfl (by decide) [0] rfl ?_
  refine g_lload_n B dJ13_bitCount_95d88_34 0 rfl ?_
  refine g_lload_n B dJ13_bitCount_95d88_35 0 rfl ?_
  refine g_bipush (v := (8 : Int32)) B dJ13_bitCount_95d88_36 (by decide) ?_
  refine g_lushr (v := (0 : Int64)) B dJ13_bitCount_95d88_38 (by decide) ?_
  refine g_ladd (v := (1 : Int64)) B dJ13_bitCount_95d88_39 (by decide) ?_
  refine g_lstore_n (lv' := [(0, .long (1 : Int64))]) B dJ13_bitCount_95d88_40 rfl (by decide) [0] rfl ?_
  refine g_lload_n B dJ13_bitCount_95d88_41 0 rfl ?_
  refine g_lload_n B dJ13_bitCount_95d88_42 0 rfl ?_
  refine g_bipush (v := (16 : Int32)) B dJ13_bitCount_95d88_43 (by decide) ?_
  refine g_lushr (v := (0 : Int64)) B dJ13_bitCount_95d88_45 (by decide) ?_
  refine g_ladd (v := (1 : Int64)) B dJ13_bitCount_95d88_46 (by decide) ?_
  refine g_lstore_n (lv' := [(0, .long (1 : Int64))]) B dJ13_bitCount_95d88_47 rfl (by decide) [0] rfl ?_
  refine g_lload_n B dJ13_bitCount_95d88_48 0 rfl ?_
  refine g_lload_n B dJ13_bitCount_95d88_49 0 rfl ?_
  refine g_bipush (v := (32 : Int32)) B dJ13_bitCount_95d88_50 (by decide) ?_
  refine g_lushr (v := (0 : Int64)) B dJ13_bitCount_95d88_52 (by decide) ?_
  refine g_ladd (v := (1 : Int64)) B dJ13_bitCount_95d88_53 (by decide) ?_
  refine g_lstore_n (lv' := [(0, .long (1 : Int64))]) B dJ13_bitCount_95d88_54 rfl (by decide) [0] rfl ?_
  refine g_lload_n B dJ13_bitCount_95d88_55 0 rfl ?_
  refine g_l2i (v := (1 : Int32)) B dJ13_bitCount_95d88_56 (by decide) ?_
  refine g_bipush (v := (127 : Int32)) B dJ13_bitCount_95d88_57 (by decide) ?_
  refine g_iand (v := (1 : Int32)) B dJ13_bitCount_95d88_59 (by decide) ?_
  exact g_iret_p B hr rfl hlocks () (rfl) (trivial) dJ13_bitCount_95d88_60

set_option maxHeartbeats 4000000 in
set_option maxRecDepth 100000 in
theorem c_edgesIn_1 (l : Launch) {D : va_G} {cI cL cZ : ClassId}   : PM l yX5_edgesIn wsX5_edgesIn ({ frames := 1, cells := 0, slots := 0, locals := 21 } : Room) D (gTys cI cL cZ) [.long (1 : Int64)] [] (fun (_ : Unit) => True) (fun (_ : Unit) => some (.int (1 : Int32))) := by
  refine PM.ofG cX5_edgesIn 2 (some .int) (by decide +kernel) rfl (Nat.le_of_ble_eq_true rfl) ?_
  intro p e s m below meth c B hr hlocks hname hK hN
  refine g_lload_n B dX5_edgesIn_0 0 rfl ?_
  refine g_ldc2 (v := (16777215 : Int64)) B dX5_edgesIn_1 (List.mem_of_getElem? (i := 1) rfl) ?_
  refine g_land (v := (1 : Int64)) B dX5_edgesIn_4 (by decide) ?_
  refine g_callP (g_runS B (PM.met (c_bitCount_1 l (D := D) (cI := cI) (cL := cL) (cZ := cZ)  )) (gPp.pre (av := [.long (1 : Int64)]) (wc := []) hK hN [] rfl (by decide)) gX5_edgesIn_J13_bitCount_95d88 rfl kd_J13_bitCount_95d88 ⟨by decide, by decide⟩ (st := []) rfl (Nat.le_of_ble_eq_true rfl) dX5_edgesIn_5 ⟨by decide, by decide⟩) (fun u hu => ?_)
  exact g_iret_p B hr rfl hlocks () (rfl) (trivial) dX5_edgesIn_8

set_option maxHeartbeats 4000000 in
set_option maxRecDepth 100000 in
theorem c_bitCount_2 (l : Launch) {D : va_G} {cI cL cZ : ClassId}   : PM l yJ13_bitCount_95d88 wsJ13_bitCount_95d88 ({ frames := 0, cells := 0, slots := 0, locals := 0 } : Room) D (gTys cI cL cZ) [.long (2 : Int64)] [] (fun (_ : Unit) => True) (fun (_ : Unit) => some (.int (1 : Int32))) := by
  refine PM.ofG cJ13_bitCount_95d88 2 (some .int) (by decide +kernel) rfl (Nat.le_of_ble_eq_true rfl) ?_
  intro p e s m below meth c B hr hlocks hname hK hN
  refine g_lload_n B dJ13_bitCount_95d88_0 0 rfl ?_
  refine g_lload_n B dJ13_bitCount_95d88_1 0 rfl ?_
  refine g_iconst (v := (1 : Int32)) B dJ13_bitCount_95d88_2 (by decide) ?_
  refine g_lushr (v := (1 : Int64)) B dJ13_bitCount_95d88_3 (by decide) ?_
  refine g_ldc2 (v := (6148914691236517205 : Int64)) B dJ13_bitCount_95d88_4 (List.mem_of_getElem? (i := 1) rfl) ?_
  refine g_land (v := (1 : Int64)) B dJ13_bitCount_95d88_7 (by decide) ?_
  refine g_lsub (v := (1 : Int64)) B dJ13_bitCount_95d88_8 (by decide) ?_
  refine g_lstore_n (lv' := [(0, .long (1 : Int64))]) B dJ13_bitCount_95d88_9 rfl (by decide) [0] rfl ?_
  refine g_lload_n B dJ13_bitCount_95d88_10 0 rfl ?_
  refine g_ldc2 (v := (3689348814741910323 : Int64)) B dJ13_bitCount_95d88_11 (List.mem_of_getElem? (i := 2) rfl) ?_
  refine g_land (v := (1 : Int64)) B dJ13_bitCount_95d88_14 (by decide) ?_
  refine g_lload_n B dJ13_bitCount_95d88_15 0 rfl ?_
  refine g_iconst (v := (2 : Int32)) B dJ13_bitCount_95d88_16 (by decide) ?_
  refine g_lushr (v := (0 : Int64)) B dJ13_bitCount_95d88_17 (by decide) ?_
  refine g_ldc2 (v := (3689348814741910323 : Int64)) B dJ13_bitCount_95d88_18 (List.mem_of_getElem? (i := 2) rfl) ?_
  refine g_land (v := (0 : Int64)) B dJ13_bitCount_95d88_21 (by decide) ?_
  refine g_ladd (v := (1 : Int64)) B dJ13_bitCount_95d88_22 (by decide) ?_
  refine g_lstore_n (lv' := [(0, .long (1 : Int64))]) B dJ13_bitCount_95d88_23 rfl (by decide) [0] rfl ?_
  refine g_lload_n B dJ13_bitCount_95d88_24 0 rfl ?_
  refine g_lload_n B dJ13_bitCount_95d88_25 0 rfl ?_
  refine g_iconst (v := (4 : Int32)) B dJ13_bitCount_95d88_26 (by decide) ?_
  refine g_lushr (v := (0 : Int64)) B dJ13_bitCount_95d88_27 (by decide) ?_
  refine g_ladd (v := (1 : Int64)) B dJ13_bitCount_95d88_28 (by decide) ?_
  refine g_ldc2 (v := (1085102592571150095 : Int64)) B dJ13_bitCount_95d88_29 (List.mem_of_getElem? (i := 3) rfl) ?_
  refine g_land (v := (1 : Int64)) B dJ13_bitCount_95d88_32 (by decide) ?_
  refine g_lstore_n (lv' := [(0, .long (1 : Int64))]) B dJ13_bitCount_95d88_33 rfl (by decide) [0] rfl ?_
  refine g_lload_n B dJ13_bitCount_95d88_34 0 rfl ?_
  refine g_lload_n B dJ13_bitCount_95d88_35 0 rfl ?_
  refine g_bipush (v := (8 : Int32)) B dJ13_bitCount_95d88_36 (by decide) ?_
  refine g_lushr (v := (0 : Int64)) B dJ13_bitCount_95d88_38 (by decide) ?_
  refine g_ladd (v := (1 : Int64)) B dJ13_bitCount_95d88_39 (by decide) ?_
  refine g_lstore_n (lv' := [(0, .long (1 : Int64))]) B dJ13_bitCount_95d88_40 rfl (by decide) [0] rfl ?_
  refine g_lload_n B dJ13_bitCount_95d88_41 0 rfl ?_
  refine g_lload_n B dJ13_bitCount_95d88_42 0 rfl ?_
  refine g_bipush (v := (16 : Int32)) B dJ13_bitCount_95d88_43 (by decide) ?_
  refine g_lushr (v := (0 : Int64)) B dJ13_bitCount_95d88_45 (by decide) ?_
  refine g_ladd (v := (1 : Int64)) B dJ13_bitCount_95d88_46 (by decide) ?_
  refine g_lstore_n (lv' := [(0, .long (1 : Int64))]) B dJ13_bitCount_95d88_47 rfl (by decide) [0] rfl ?_
  refine g_lload_n B dJ13_bitCount_95d88_48 0 rfl ?_
  refine g_lload_n B dJ13_bitCount_95d88_49 0 rfl ?_
  refine g_bipush (v := (32 : Int32)) B dJ13_bitCount_95d88_50 (by decide) ?_
  refine g_lushr (v := (0 : Int64)) B dJ13_bitCount_95d88_52 (by decide) ?_
  refine g_ladd (v := (1 : Int64)) B dJ13_bitCount_95d88_53 (by decide) ?_
  refine g_lstore_n (lv' := [(0, .long (1 : Int64))]) B dJ13_bitCount_95d88_54 rfl (by decide) [0] rfl ?_
  refine g_lload_n B dJ13_bitCount_95d88_55 0 rfl ?_
  refine g_l2i (v := (1 : Int32)) B dJ13_bitCount_95d88_56 (by decide) ?_
  refine g_bipush (v := (127 : Int32)) B dJ13_bitCount_95d88_57 (by decide) ?_
  refine g_iand (v := (1 : Int32)) B dJ13_bitCount_95d88_59 (by decide) ?_
  exact g_iret_p B hr rfl hlocks () (rfl) (trivial) dJ13_bitCount_95d88_60

set_option maxHeartbeats 4000000 in
set_option maxRecDepth 100000 in
theorem c_edgesIn_2 (l : Launch) {D : va_G} {cI cL cZ : ClassId}   : PM l yX5_edgesIn wsX5_edgesIn ({ frames := 1, cells := 0, slots := 0, locals := 21 } : Room) D (gTys cI cL cZ) [.long (2 : Int64)] [] (fun (_ : Unit) => True) (fun (_ : Unit) => some (.int (1 : Int32))) := by
  refine PM.ofG cX5_edgesIn 2 (some .int) (by decide +kernel) rfl (Nat.le_of_ble_eq_true rfl) ?_
  intro p e s m below meth c B hr hlocks hname hK hN
  refine g_lload_n B dX5_edgesIn_0 0 rfl ?_
  refine g_ldc2 (v := (16777215 : Int64)) B dX5_edgesIn_1 (List.mem_of_getElem? (i := 1) rfl) ?_
  refine g_land (v := (2 : Int64)) B dX5_edgesIn_4 (by decide) ?_
  refine g_callP (g_runS B (PM.met (c_bitCount_2 l (D := D) (cI := cI) (cL := cL) (cZ := cZ)  )) (gPp.pre (av := [.long (2 : Int64)]) (wc := []) hK hN [] rfl (by decide)) gX5_edgesIn_J13_bitCount_95d88 rfl kd_J13_bitCount_95d88 ⟨by decide, by decide⟩ (st := []) rfl (Nat.le_of_ble_eq_true rfl) dX5_edgesIn_5 ⟨by decide, by decide⟩) (fun u hu => ?_)
  exact g_iret_p B hr rfl hlocks () (rfl) (trivial) dX5_edgesIn_8

set_option maxHeartbeats 4000000 in
set_option maxRecDepth 100000 in
theorem c_outcomeOf_1 (l : Launch) {D : va_G} {cI cL cZ : ClassId}   : PM l yX5_outcomeOf wsX5_outcomeOf ({ frames := 0, cells := 0, slots := 0, locals := 0 } : Room) D (gTys cI cL cZ) [.int (1 : Int32)] [] (fun (_ : Unit) => True) (fun (_ : Unit) => some (.int (1 : Int32))) := by
  refine PM.ofG cX5_outcomeOf 1 (some .int) (by decide +kernel) rfl (Nat.le_of_ble_eq_true rfl) ?_
  intro p e s m below meth c B hr hlocks hname hK hN
  refine g_iload_n B dX5_outcomeOf_0 0 rfl ?_
  refine g_bipush (v := (100 : Int32)) B dX5_outcomeOf_1 (by decide) ?_
  refine g_icmp_ge (tgt := 10) B dX5_outcomeOf_3 (by decide) (fun c1 => absurd c1 (by decide)) (fun _ => ?_)
  refine g_iload_n B dX5_outcomeOf_6 0 rfl ?_
  refine g_goto (tgt := 17) B dX5_outcomeOf_7 (by decide) ?_
  exact g_iret_p B hr rfl hlocks () (rfl) (trivial) dX5_outcomeOf_17

