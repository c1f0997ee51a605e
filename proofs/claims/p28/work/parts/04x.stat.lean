/-! the class: statics -/
theorem kd_J13_bitCount_95d88 : yJ13_bitCount_95d88.cls ≠ "java/lang/invoke/MethodHandle" ∧ yJ13_bitCount_95d88.cls ≠ "java/lang/invoke/VarHandle" ∧ (parseMethodDescriptor yJ13_bitCount_95d88.desc).map (fun d => d.parameters.length) = some 1 := by decide +kernel
theorem kd_X5_isNode : yX5_isNode.cls ≠ "java/lang/invoke/MethodHandle" ∧ yX5_isNode.cls ≠ "java/lang/invoke/VarHandle" ∧ (parseMethodDescriptor yX5_isNode.desc).map (fun d => d.parameters.length) = some 1 := by decide +kernel
theorem kd_X5_placeOf : yX5_placeOf.cls ≠ "java/lang/invoke/MethodHandle" ∧ yX5_placeOf.cls ≠ "java/lang/invoke/VarHandle" ∧ (parseMethodDescriptor yX5_placeOf.desc).map (fun d => d.parameters.length) = some 1 := by decide +kernel
theorem kd_X5_valueOf : yX5_valueOf.cls ≠ "java/lang/invoke/MethodHandle" ∧ yX5_valueOf.cls ≠ "java/lang/invoke/VarHandle" ∧ (parseMethodDescriptor yX5_valueOf.desc).map (fun d => d.parameters.length) = some 2 := by decide +kernel
theorem nI_nem {n : Nat} (h : n < 12) : ¬ nI n = -1 := by
  intro e
  exact absurd (co64 (P := fun n => n < 12 → ¬ nI n = -1) (by decide +kernel) (show n < 64 by omega) h) (fun z => z e)
set_option maxHeartbeats 4000000 in
set_option maxRecDepth 100000 in
theorem k_bit (l : Launch) {D : va_G} {cI cL cZ cQ : ClassId} (k : Nat) (hk : k < 64) : PM l yX5_bit wsX5_bit ({ frames := 0, cells := 0, slots := 0, locals := 0 } : Room) D (gTys cI cL cZ cQ) [.int (nI k)] [] (fun (_ : Unit) => True) (fun (_ : Unit) => some (.long (lShl 1 (nI k)))) := by
  refine PM.ofG cX5_bit 1 (some .long) (by decide +kernel) rfl (Nat.le_of_ble_eq_true rfl) ?_
  intro p e s m below meth c B hr hlocks hname hK hN
  refine g_lconst (v := (1 : Int64)) B dX5_bit_0 rfl ?_
  refine g_iload_n B dX5_bit_1 0 rfl ?_
  refine g_lshl (v := lShl (1 : Int64) (nI k)) B dX5_bit_2 (rfl) ?_
  exact g_lret_p B hr hlocks () (rfl) (trivial) dX5_bit_3

set_option maxHeartbeats 4000000 in
set_option maxRecDepth 100000 in
theorem k_isNode_m (l : Launch) {D : va_G} {cI cL cZ cQ : ClassId}   : PM l yX5_isNode wsX5_isNode ({ frames := 0, cells := 0, slots := 0, locals := 0 } : Room) D (gTys cI cL cZ cQ) [.int (-1 : Int32)] [] (fun (_ : Unit) => True) (fun (_ : Unit) => some (.int (0 : Int32))) := by
  refine PM.ofG cX5_isNode 1 (some .boolean) (by decide +kernel) rfl (Nat.le_of_ble_eq_true rfl) ?_
  intro p e s m below meth c B hr hlocks hname hK hN
  refine g_iload_n B dX5_isNode_0 0 rfl ?_
  refine g_if_lt (tgt := 14) B dX5_isNode_1 (by decide) (fun _ => ?_) (fun c1 => absurd (by decide) c1)
  refine g_iconst (v := (0 : Int32)) B dX5_isNode_14 (by decide) ?_
  exact g_iret_p B hr rfl hlocks () (rfl) (trivial) dX5_isNode_15

set_option maxHeartbeats 4000000 in
set_option maxRecDepth 100000 in
theorem k_isNode_n (l : Launch) {D : va_G} {cI cL cZ cQ : ClassId} (k : Nat) (hk : k < 12) : PM l yX5_isNode wsX5_isNode ({ frames := 0, cells := 0, slots := 0, locals := 0 } : Room) D (gTys cI cL cZ cQ) [.int (nI k)] [] (fun (_ : Unit) => True) (fun (_ : Unit) => some (.int (1 : Int32))) := by
  refine PM.ofG cX5_isNode 1 (some .boolean) (by decide +kernel) rfl (Nat.le_of_ble_eq_true rfl) ?_
  intro p e s m below meth c B hr hlocks hname hK hN
  refine g_iload_n B dX5_isNode_0 0 rfl ?_
  refine g_nif_lt (tgt := 14) B k rfl (by omega) dX5_isNode_1 (by decide) ?_
  refine g_iload_n B dX5_isNode_4 0 rfl ?_
  refine g_bipush (v := (12 : Int32)) B dX5_isNode_5 (by decide) ?_
  refine g_ncmp_ge (tgt := 14) B k 12 rfl rfl (by omega) (by omega) dX5_isNode_7 (by decide) (fun c2 => ?_) (fun c2 => ?_)
  · exfalso; omega
  refine g_iconst (v := (1 : Int32)) B dX5_isNode_10 (by decide) ?_
  refine g_goto (tgt := 15) B dX5_isNode_11 (by decide) ?_
  exact g_iret_p B hr rfl hlocks () (rfl) (trivial) dX5_isNode_15

set_option maxRecDepth 100000 in
theorem k_isNode_t (l : Launch) {D : va_G} {cI cL cZ cQ : ClassId} (k : Nat)  : PM l yX5_isNode wsX5_isNode ({ frames := 0, cells := 0, slots := 0, locals := 0 } : Room) D (gTys cI cL cZ cQ) [.int (ks_tI k)] [] (fun (_ : Unit) => True) (fun (_ : Unit) => some (.int (bI (decide (k < 12))))) := by
  by_cases h : k < 12
  · rw [ks_tI_lt h, decide_eq_true h]; exact k_isNode_n l k h
  · rw [ks_tI_ge h, decide_eq_false h]; exact k_isNode_m l

set_option maxHeartbeats 4000000 in
set_option maxRecDepth 100000 in
theorem k_valueOf (l : Launch) {D : va_G} {cI cL cZ cQ : ClassId} (t : Nat) (sl : Nat) (ht : t < 10000) (hs : sl < 4) : PM l yX5_valueOf wsX5_valueOf ({ frames := 0, cells := 0, slots := 0, locals := 0 } : Room) D (gTys cI cL cZ cQ) [.int (nI t), .int (nI sl)] [] (fun (_ : Unit) => True) (fun (_ : Unit) => some (.int (nI (ks_dg t sl)))) := by
  refine PM.ofG cX5_valueOf 2 (some .int) (by decide +kernel) rfl (Nat.le_of_ble_eq_true rfl) ?_
  intro p e s m below meth c B hr hlocks hname hK hN
  refine g_iload_n B dX5_valueOf_0 1 rfl ?_
  rcases (show sl = 0 ∨ sl = 1 ∨ sl = 2 ∨ sl = 3 by omega) with c1 | c1 | c1 | c1
  · refine g_eqi (y := (0 : Int32)) (by rw [c1]; rfl) ?_
    refine g_tableIn (off := 27) (tgt := 28) B dX5_valueOf_1 (by decide) (by decide) (by decide) (by decide) ?_
    refine g_iload_n B dX5_valueOf_28 0 rfl ?_
    refine g_sipush (v := (1000 : Int32)) B dX5_valueOf_29 (by decide) ?_
    refine g_idiv (v := nI (t / 1000)) B dX5_valueOf_32 (by decide) (pk_div (a := t) (d := 1000) (by omega) (by decide) (by decide)) ?_
    refine g_bipush (v := (10 : Int32)) B dX5_valueOf_33 (by decide) ?_
    refine g_irem (v := nI ((t / 1000) % 10)) B dX5_valueOf_35 (by decide) (pk_rem (a := t / 1000) (d := 10) (by omega) (by decide) (by decide)) ?_
    exact g_iret_p B hr rfl hlocks () (by rw [c1]; rfl) (trivial) dX5_valueOf_36
  · refine g_eqi (y := (1 : Int32)) (by rw [c1]; rfl) ?_
    refine g_tableIn (off := 36) (tgt := 37) B dX5_valueOf_1 (by decide) (by decide) (by decide) (by decide) ?_
    refine g_iload_n B dX5_valueOf_37 0 rfl ?_
    refine g_bipush (v := (100 : Int32)) B dX5_valueOf_38 (by decide) ?_
    refine g_idiv (v := nI (t / 100)) B dX5_valueOf_40 (by decide) (pk_div (a := t) (d := 100) (by omega) (by decide) (by decide)) ?_
    refine g_bipush (v := (10 : Int32)) B dX5_valueOf_41 (by decide) ?_
    refine g_irem (v := nI ((t / 100) % 10)) B dX5_valueOf_43 (by decide) (pk_rem (a := t / 100) (d := 10) (by omega) (by decide) (by decide)) ?_
    exact g_iret_p B hr rfl hlocks () (by rw [c1]; rfl) (trivial) dX5_valueOf_44
  · refine g_eqi (y := (2 : Int32)) (by rw [c1]; rfl) ?_
    refine g_tableIn (off := 44) (tgt := 45) B dX5_valueOf_1 (by decide) (by decide) (by decide) (by decide) ?_
    refine g_iload_n B dX5_valueOf_45 0 rfl ?_
    refine g_bipush (v := (10 : Int32)) B dX5_valueOf_46 (by decide) ?_
    refine g_idiv (v := nI (t / 10)) B dX5_valueOf_48 (by decide) (pk_div (a := t) (d := 10) (by omega) (by decide) (by decide)) ?_
    refine g_bipush (v := (10 : Int32)) B dX5_valueOf_49 (by decide) ?_
    refine g_irem (v := nI ((t / 10) % 10)) B dX5_valueOf_51 (by decide) (pk_rem (a := t / 10) (d := 10) (by omega) (by decide) (by decide)) ?_
    exact g_iret_p B hr rfl hlocks () (by rw [c1]; rfl) (trivial) dX5_valueOf_52
  · refine g_eqi (y := (3 : Int32)) (by rw [c1]; rfl) ?_
    refine g_tableOut (tgt := 53) B dX5_valueOf_1 (by decide) (by decide) ?_
    refine g_iload_n B dX5_valueOf_53 0 rfl ?_
    refine g_bipush (v := (10 : Int32)) B dX5_valueOf_54 (by decide) ?_
    refine g_irem (v := nI (t % 10)) B dX5_valueOf_56 (by decide) (pk_rem (a := t) (d := 10) (by omega) (by decide) (by decide)) ?_
    exact g_iret_p B hr rfl hlocks () (by rw [c1]; rfl) (trivial) dX5_valueOf_57

set_option maxHeartbeats 4000000 in
set_option maxRecDepth 100000 in
theorem k_placeOf (l : Launch) {D : va_G} {cI cL cZ cQ : ClassId} (sl : Nat) (hs : sl < 4) : PM l yX5_placeOf wsX5_placeOf ({ frames := 0, cells := 0, slots := 0, locals := 0 } : Room) D (gTys cI cL cZ cQ) [.int (nI sl)] [] (fun (_ : Unit) => True) (fun (_ : Unit) => some (.int (nI (ks_pw sl)))) := by
  refine PM.ofG cX5_placeOf 1 (some .int) (by decide +kernel) rfl (Nat.le_of_ble_eq_true rfl) ?_
  intro p e s m below meth c B hr hlocks hname hK hN
  refine g_iload_n B dX5_placeOf_0 0 rfl ?_
  rcases (show sl = 0 ∨ sl = 1 ∨ sl = 2 ∨ sl = 3 by omega) with c1 | c1 | c1 | c1
  · refine g_eqi (y := (0 : Int32)) (by rw [c1]; rfl) ?_
    refine g_tableIn (off := 27) (tgt := 28) B dX5_placeOf_1 (by decide) (by decide) (by decide) (by decide) ?_
    refine g_sipush (v := (1000 : Int32)) B dX5_placeOf_28 (by decide) ?_
    exact g_iret_p B hr rfl hlocks () (by rw [c1]; rfl) (trivial) dX5_placeOf_31
  · refine g_eqi (y := (1 : Int32)) (by rw [c1]; rfl) ?_
    refine g_tableIn (off := 31) (tgt := 32) B dX5_placeOf_1 (by decide) (by decide) (by decide) (by decide) ?_
    refine g_bipush (v := (100 : Int32)) B dX5_placeOf_32 (by decide) ?_
    exact g_iret_p B hr rfl hlocks () (by rw [c1]; rfl) (trivial) dX5_placeOf_34
  · refine g_eqi (y := (2 : Int32)) (by rw [c1]; rfl) ?_
    refine g_tableIn (off := 34) (tgt := 35) B dX5_placeOf_1 (by decide) (by decide) (by decide) (by decide) ?_
    refine g_bipush (v := (10 : Int32)) B dX5_placeOf_35 (by decide) ?_
    exact g_iret_p B hr rfl hlocks () (by rw [c1]; rfl) (trivial) dX5_placeOf_37
  · refine g_eqi (y := (3 : Int32)) (by rw [c1]; rfl) ?_
    refine g_tableOut (tgt := 38) B dX5_placeOf_1 (by decide) (by decide) ?_
    refine g_iconst (v := (1 : Int32)) B dX5_placeOf_38 (by decide) ?_
    exact g_iret_p B hr rfl hlocks () (by rw [c1]; rfl) (trivial) dX5_placeOf_39

set_option maxHeartbeats 4000000 in
set_option maxRecDepth 100000 in
theorem k_withValue (l : Launch) {D : va_G} {cI cL cZ cQ : ClassId} (t : Nat) (sl : Nat) (v : Nat) (ht : t < 10000) (hs : sl < 4) : PM l yX5_withValue wsX5_withValue ({ frames := 1, cells := 0, slots := 0, locals := 21 } : Room) D (gTys cI cL cZ cQ) [.int (nI t), .int (nI sl), .int (nI v)] [] (fun (_ : Unit) => True) (fun (_ : Unit) => some (.int (nI (ks_wv t sl v)))) := by
  refine PM.ofG cX5_withValue 3 (some .int) (by decide +kernel) rfl (Nat.le_of_ble_eq_true rfl) ?_
  intro p e s m below meth c B hr hlocks hname hK hN
  refine g_iload_n B dX5_withValue_0 0 rfl ?_
  refine g_iload_n B dX5_withValue_1 2 rfl ?_
  refine g_iload_n B dX5_withValue_2 0 rfl ?_
  refine g_iload_n B dX5_withValue_3 1 rfl ?_
  refine g_callP (g_runS B (PM.met (k_valueOf l (D := D) (cI := cI) (cL := cL) (cZ := cZ) (cQ := cQ) t sl (by first | with_reducible assumption | omega | assumption) (by first | with_reducible assumption | omega | assumption))) (gPp.pre (av := [.int (nI t), .int (nI sl)]) (wc := []) hK hN [] rfl (by decide)) gX5_withValue_X5_valueOf rfl kd_X5_valueOf ⟨by decide, by decide⟩ (st := [.int (nI v), .int (nI t)]) rfl (Nat.le_of_ble_eq_true rfl) dX5_withValue_4 ⟨by decide, by decide⟩) (fun u hu => ?_)
  refine g_isub (v := ((nI v) - nI (ks_dg t sl))) B dX5_withValue_7 (rfl) ?_
  refine g_iload_n B dX5_withValue_8 1 rfl ?_
  refine g_callP (g_runS B (PM.met (k_placeOf l (D := D) (cI := cI) (cL := cL) (cZ := cZ) (cQ := cQ) sl (by first | with_reducible assumption | omega | assumption))) (gPp.pre (av := [.int (nI sl)]) (wc := []) hK hN [] rfl (by decide)) gX5_withValue_X5_placeOf rfl kd_X5_placeOf ⟨by decide, by decide⟩ (st := [.int ((nI v) - nI (ks_dg t sl)), .int (nI t)]) rfl (Nat.le_of_ble_eq_true rfl) dX5_withValue_9 ⟨by decide, by decide⟩) (fun u hu => ?_)
  refine g_imul (v := (((nI v) - nI (ks_dg t sl)) * nI (ks_pw sl))) B dX5_withValue_12 (rfl) ?_
  refine g_iadd (v := (nI t + (((nI v) - nI (ks_dg t sl)) * nI (ks_pw sl)))) B dX5_withValue_13 (rfl) ?_
  refine g_eqi (y := nI (ks_wv t sl v)) (ks_wvI) ?_
  exact g_iret_p B hr rfl hlocks () (rfl) (trivial) dX5_withValue_14

set_option maxHeartbeats 4000000 in
set_option maxRecDepth 100000 in
theorem k_contains (l : Launch) {D : va_G} {cI cL cZ cQ : ClassId} (S : Int64) (k : Nat) (hk : k < 64) : PM l yX5_contains wsX5_contains ({ frames := 0, cells := 0, slots := 0, locals := 0 } : Room) D (gTys cI cL cZ cQ) [.long S, .int (nI k)] [] (fun (_ : Unit) => True) (fun (_ : Unit) => some (.int (bI (hasB S k)))) := by
  refine PM.ofG cX5_contains 3 (some .boolean) (by decide +kernel) rfl (Nat.le_of_ble_eq_true rfl) ?_
  intro p e s m below meth c B hr hlocks hname hK hN
  refine g_lload_n B dX5_contains_0 0 rfl ?_
  refine g_iload_n B dX5_contains_1 1 rfl ?_
  refine g_lushr (v := lShr S (nI k)) B dX5_contains_2 (rfl) ?_
  refine g_lconst (v := (1 : Int64)) B dX5_contains_3 rfl ?_
  refine g_land (v := (lShr S (nI k) &&& (1 : Int64))) B dX5_contains_4 (rfl) ?_
  refine g_lconst (v := (0 : Int64)) B dX5_contains_5 rfl ?_
  refine g_lcmp (v := (lg_cmp (lShr S (nI k) &&& (1 : Int64)) (0 : Int64))) B dX5_contains_6 rfl ?_
  refine g_lif_eq (tgt := 14) B dX5_contains_7 (by decide) (fun c1 => ?_) (fun c1 => ?_)
  · refine g_iconst (v := (0 : Int32)) B dX5_contains_14 (by decide) ?_
    exact g_iret_p B hr rfl hlocks () (by simp [hasB, c1, bI]) (trivial) dX5_contains_15
  · refine g_iconst (v := (1 : Int32)) B dX5_contains_10 (by decide) ?_
    refine g_goto (tgt := 15) B dX5_contains_11 (by decide) ?_
    exact g_iret_p B hr rfl hlocks () (by simp [hasB, c1, bI]) (trivial) dX5_contains_15

set_option maxHeartbeats 4000000 in
set_option maxRecDepth 100000 in
theorem k_bitCount (l : Launch) {D : va_G} {cI cL cZ cQ : ClassId} (x : Int64)  : PM l yJ13_bitCount_95d88 wsJ13_bitCount_95d88 ({ frames := 0, cells := 0, slots := 0, locals := 0 } : Room) D (gTys cI cL cZ cQ) [.long x] [] (fun (_ : Unit) => True) (fun (_ : Unit) => some (.int (nI (ks_bc x)))) := by
  refine PM.ofG cJ13_bitCount_95d88 2 (some .int) (by decide +kernel) rfl (Nat.le_of_ble_eq_true rfl) ?_
  intro p e s m below meth c B hr hlocks hname hK hN
  refine g_lload_n B dJ13_bitCount_95d88_0 0 rfl ?_
  refine g_lload_n B dJ13_bitCount_95d88_1 0 rfl ?_
  refine g_iconst (v := (1 : Int32)) B dJ13_bitCount_95d88_2 (by decide) ?_
  refine g_lushr (v := lShr x (1 : Int32)) B dJ13_bitCount_95d88_3 (rfl) ?_
  refine g_ldc2 (v := (6148914691236517205 : Int64)) B dJ13_bitCount_95d88_4 (List.mem_of_getElem? (i := 1) rfl) ?_
  refine g_land (v := (lShr x (1 : Int32) &&& (6148914691236517205 : Int64))) B dJ13_bitCount_95d88_7 (rfl) ?_
  refine g_lsub (v := (x - (lShr x (1 : Int32) &&& (6148914691236517205 : Int64)))) B dJ13_bitCount_95d88_8 (rfl) ?_
  refine g_topl (fun y1 e_y1 => ?_)
  refine g_lstore_n (lv' := [(0, .long y1)]) B dJ13_bitCount_95d88_9 rfl (by decide) [0] rfl ?_
  refine g_lload_n B dJ13_bitCount_95d88_10 0 rfl ?_
  refine g_ldc2 (v := (3689348814741910323 : Int64)) B dJ13_bitCount_95d88_11 (List.mem_of_getElem? (i := 2) rfl) ?_
  refine g_land (v := (y1 &&& (3689348814741910323 : Int64))) B dJ13_bitCount_95d88_14 (rfl) ?_
  refine g_lload_n B dJ13_bitCount_95d88_15 0 rfl ?_
  refine g_iconst (v := (2 : Int32)) B dJ13_bitCount_95d88_16 (by decide) ?_
  refine g_lushr (v := lShr y1 (2 : Int32)) B dJ13_bitCount_95d88_17 (rfl) ?_
  refine g_ldc2 (v := (3689348814741910323 : Int64)) B dJ13_bitCount_95d88_18 (List.mem_of_getElem? (i := 2) rfl) ?_
  refine g_land (v := (lShr y1 (2 : Int32) &&& (3689348814741910323 : Int64))) B dJ13_bitCount_95d88_21 (rfl) ?_
  refine g_ladd (v := ((y1 &&& (3689348814741910323 : Int64)) + (lShr y1 (2 : Int32) &&& (3689348814741910323 : Int64)))) B dJ13_bitCount_95d88_22 (rfl) ?_
  refine g_topl (fun y2 e_y2 => ?_)
  refine g_lstore_n (lv' := [(0, .long y2)]) B dJ13_bitCount_95d88_23 rfl (by decide) [0] rfl ?_
  refine g_lload_n B dJ13_bitCount_95d88_24 0 rfl ?_
  refine g_lload_n B dJ13_bitCount_95d88_25 0 rfl ?_
  refine g_iconst (v := (4 : Int32)) B dJ13_bitCount_95d88_26 (by decide) ?_
  refine g_lushr (v := lShr y2 (4 : Int32)) B dJ13_bitCount_95d88_27 (rfl) ?_
  refine g_ladd (v := (y2 + lShr y2 (4 : Int32))) B dJ13_bitCount_95d88_28 (rfl) ?_
  refine g_ldc2 (v := (1085102592571150095 : Int64)) B dJ13_bitCount_95d88_29 (List.mem_of_getElem? (i := 3) rfl) ?_
  refine g_land (v := ((y2 + lShr y2 (4 : Int32)) &&& (1085102592571150095 : Int64))) B dJ13_bitCount_95d88_32 (rfl) ?_
  refine g_topl (fun y3 e_y3 => ?_)
  refine g_lstore_n (lv' := [(0, .long y3)]) B dJ13_bitCount_95d88_33 rfl (by decide) [0] rfl ?_
  refine g_lload_n B dJ13_bitCount_95d88_34 0 rfl ?_
  refine g_lload_n B dJ13_bitCount_95d88_35 0 rfl ?_
  refine g_bipush (v := (8 : Int32)) B dJ13_bitCount_95d88_36 (by decide) ?_
  refine g_lushr (v := lShr y3 (8 : Int32)) B dJ13_bitCount_95d88_38 (rfl) ?_
  refine g_ladd (v := (y3 + lShr y3 (8 : Int32))) B dJ13_bitCount_95d88_39 (rfl) ?_
  refine g_topl (fun y4 e_y4 => ?_)
  refine g_lstore_n (lv' := [(0, .long y4)]) B dJ13_bitCount_95d88_40 rfl (by decide) [0] rfl ?_
  refine g_lload_n B dJ13_bitCount_95d88_41 0 rfl ?_
  refine g_lload_n B dJ13_bitCount_95d88_42 0 rfl ?_
  refine g_bipush (v := (16 : Int32)) B dJ13_bitCount_95d88_43 (by decide) ?_
  refine g_lushr (v := lShr y4 (16 : Int32)) B dJ13_bitCount_95d88_45 (rfl) ?_
  refine g_ladd (v := (y4 + lShr y4 (16 : Int32))) B dJ13_bitCount_95d88_46 (rfl) ?_
  refine g_topl (fun y5 e_y5 => ?_)
  refine g_lstore_n (lv' := [(0, .long y5)]) B dJ13_bitCount_95d88_47 rfl (by decide) [0] rfl ?_
  refine g_lload_n B dJ13_bitCount_95d88_48 0 rfl ?_
  refine g_lload_n B dJ13_bitCount_95d88_49 0 rfl ?_
  refine g_bipush (v := (32 : Int32)) B dJ13_bitCount_95d88_50 (by decide) ?_
  refine g_lushr (v := lShr y5 (32 : Int32)) B dJ13_bitCount_95d88_52 (rfl) ?_
  refine g_ladd (v := (y5 + lShr y5 (32 : Int32))) B dJ13_bitCount_95d88_53 (rfl) ?_
  refine g_topl (fun y6 e_y6 => ?_)
  refine g_lstore_n (lv' := [(0, .long y6)]) B dJ13_bitCount_95d88_54 rfl (by decide) [0] rfl ?_
  refine g_lload_n B dJ13_bitCount_95d88_55 0 rfl ?_
  refine g_l2i (v := y6.toInt32) B dJ13_bitCount_95d88_56 rfl ?_
  refine g_bipush (v := (127 : Int32)) B dJ13_bitCount_95d88_57 (by decide) ?_
  refine g_iand (v := (y6.toInt32 &&& (127 : Int32))) B dJ13_bitCount_95d88_59 (rfl) ?_
  refine g_eqi (y := nI (ks_bc x)) (ks_pop x y1 y2 y3 y4 y5 y6 e_y1 e_y2 e_y3 e_y4 e_y5 e_y6) ?_
  exact g_iret_p B hr rfl hlocks () (rfl) (trivial) dJ13_bitCount_95d88_60

set_option maxHeartbeats 4000000 in
set_option maxRecDepth 100000 in
theorem k_edgesIn (l : Launch) {D : va_G} {cI cL cZ cQ : ClassId} (x : Int64)  : PM l yX5_edgesIn wsX5_edgesIn ({ frames := 1, cells := 0, slots := 0, locals := 21 } : Room) D (gTys cI cL cZ cQ) [.long x] [] (fun (_ : Unit) => True) (fun (_ : Unit) => some (.int (nI (ks_ed x)))) := by
  refine PM.ofG cX5_edgesIn 2 (some .int) (by decide +kernel) rfl (Nat.le_of_ble_eq_true rfl) ?_
  intro p e s m below meth c B hr hlocks hname hK hN
  refine g_lload_n B dX5_edgesIn_0 0 rfl ?_
  refine g_ldc2 (v := (16777215 : Int64)) B dX5_edgesIn_1 (List.mem_of_getElem? (i := 1) rfl) ?_
  refine g_land (v := (x &&& (16777215 : Int64))) B dX5_edgesIn_4 (rfl) ?_
  refine g_callP (g_runS B (PM.met (k_bitCount l (D := D) (cI := cI) (cL := cL) (cZ := cZ) (cQ := cQ) (x &&& (16777215 : Int64)) )) (gPp.pre (av := [.long (x &&& (16777215 : Int64))]) (wc := []) hK hN [] rfl (by decide)) gX5_edgesIn_J13_bitCount_95d88 rfl kd_J13_bitCount_95d88 ⟨by decide, by decide⟩ (st := []) rfl (Nat.le_of_ble_eq_true rfl) dX5_edgesIn_5 ⟨by decide, by decide⟩) (fun u hu => ?_)
  exact g_iret_p B hr rfl hlocks () (rfl) (trivial) dX5_edgesIn_8

set_option maxHeartbeats 4000000 in
set_option maxRecDepth 100000 in
theorem k_outcomeOf (l : Launch) {D : va_G} {cI cL cZ cQ : ClassId} (r : Nat) (hr : r ≤ 200) : PM l yX5_outcomeOf wsX5_outcomeOf ({ frames := 0, cells := 0, slots := 0, locals := 0 } : Room) D (gTys cI cL cZ cQ) [.int (nI r)] [] (fun (_ : Unit) => True) (fun (_ : Unit) => some (.int (nI (ks_oc r)))) := by
  refine PM.ofG cX5_outcomeOf 1 (some .int) (by decide +kernel) rfl (Nat.le_of_ble_eq_true rfl) ?_
  intro p e s m below meth c B hr hlocks hname hK hN
  refine g_iload_n B dX5_outcomeOf_0 0 rfl ?_
  refine g_bipush (v := (100 : Int32)) B dX5_outcomeOf_1 (by decide) ?_
  refine g_ncmp_ge (tgt := 10) B r 100 rfl rfl (by omega) (by omega) dX5_outcomeOf_3 (by decide) (fun c2 => ?_) (fun c2 => ?_)
  · refine g_iload_n B dX5_outcomeOf_10 0 rfl ?_
    refine g_bipush (v := (100 : Int32)) B dX5_outcomeOf_11 (by decide) ?_
    refine g_isub (v := nI (r - 100)) B dX5_outcomeOf_13 (pk_sub (a := r) (b := 100) (by omega)) ?_
    refine g_bipush (v := (24 : Int32)) B dX5_outcomeOf_14 (by decide) ?_
    refine g_iadd (v := nI ((r - 100) + 24)) B dX5_outcomeOf_16 (nI_add (r - 100) 24) ?_
    exact g_iret_p B hr rfl hlocks () (by unfold ks_oc; rw [if_neg (by omega)]) (trivial) dX5_outcomeOf_17
  · refine g_iload_n B dX5_outcomeOf_6 0 rfl ?_
    refine g_goto (tgt := 17) B dX5_outcomeOf_7 (by decide) ?_
    exact g_iret_p B hr rfl hlocks () (by unfold ks_oc; rw [if_pos (by omega)]) (trivial) dX5_outcomeOf_17

set_option maxHeartbeats 4000000 in
set_option maxRecDepth 100000 in
theorem k_checkNode_n (l : Launch) {D : va_G} {cI cL cZ cQ : ClassId} (v1 : Nat) (h1 : v1 < 12) : PM l yX5_checkNode wsX5_checkNode ({ frames := 1, cells := 0, slots := 0, locals := 20 } : Room) D (gTys cI cL cZ cQ) [.int (nI v1)] [] (fun (_ : Unit) => True) (fun (_ : Unit) => none) := by
  refine PM.ofG cX5_checkNode 1 none (by decide +kernel) rfl (Nat.le_of_ble_eq_true rfl) ?_
  intro p e s m below meth c B hr hlocks hname hK hN
  refine g_iload_n B dX5_checkNode_0 0 rfl ?_
  refine g_callP (g_runS B (PM.met (k_isNode_n l (D := D) (cI := cI) (cL := cL) (cZ := cZ) (cQ := cQ) v1 (by first | with_reducible assumption | omega | assumption))) (gPp.pre (av := [.int (nI v1)]) (wc := []) hK hN [] rfl (by decide)) gX5_checkNode_X5_isNode rfl kd_X5_isNode ⟨by decide, by decide⟩ (st := []) rfl (Nat.le_of_ble_eq_true rfl) dX5_checkNode_1 ⟨by decide, by decide⟩) (fun u hu => ?_)
  refine g_if_ne (tgt := 18) B dX5_checkNode_4 (by decide) (fun _ => ?_) (fun c2 => absurd c2 (by decide))
  exact g_vret_p B hr hlocks () (rfl) (trivial) dX5_checkNode_18

set_option maxHeartbeats 4000000 in
set_option maxRecDepth 100000 in
theorem k_checkTarget_m (l : Launch) {D : va_G} {cI cL cZ cQ : ClassId}   : PM l yX5_checkTarget wsX5_checkTarget ({ frames := 1, cells := 0, slots := 0, locals := 20 } : Room) D (gTys cI cL cZ cQ) [.int (-1 : Int32)] [] (fun (_ : Unit) => True) (fun (_ : Unit) => none) := by
  refine PM.ofG cX5_checkTarget 1 none (by decide +kernel) rfl (Nat.le_of_ble_eq_true rfl) ?_
  intro p e s m below meth c B hr hlocks hname hK hN
  refine g_iload_n B dX5_checkTarget_0 0 rfl ?_
  refine g_iconst (v := (-1 : Int32)) B dX5_checkTarget_1 (by decide) ?_
  refine g_icmp_eq (tgt := 23) B dX5_checkTarget_2 (by decide) (fun _ => ?_) (fun c1 => absurd (by decide) c1)
  exact g_vret_p B hr hlocks () (rfl) (trivial) dX5_checkTarget_23

set_option maxHeartbeats 4000000 in
set_option maxRecDepth 100000 in
theorem k_checkTarget_n (l : Launch) {D : va_G} {cI cL cZ cQ : ClassId} (v1 : Nat) (h1 : v1 < 12) : PM l yX5_checkTarget wsX5_checkTarget ({ frames := 1, cells := 0, slots := 0, locals := 20 } : Room) D (gTys cI cL cZ cQ) [.int (nI v1)] [] (fun (_ : Unit) => True) (fun (_ : Unit) => none) := by
  refine PM.ofG cX5_checkTarget 1 none (by decide +kernel) rfl (Nat.le_of_ble_eq_true rfl) ?_
  intro p e s m below meth c B hr hlocks hname hK hN
  refine g_iload_n B dX5_checkTarget_0 0 rfl ?_
  refine g_iconst (v := (-1 : Int32)) B dX5_checkTarget_1 (by decide) ?_
  refine g_icmp_eq (tgt := 23) B dX5_checkTarget_2 (by decide) (fun c1 => ?_) (fun c1 => ?_)
  · exfalso; exact absurd c1 (nI_nem (by omega))
  refine g_iload_n B dX5_checkTarget_5 0 rfl ?_
  refine g_callP (g_runS B (PM.met (k_isNode_n l (D := D) (cI := cI) (cL := cL) (cZ := cZ) (cQ := cQ) v1 (by first | with_reducible assumption | omega | assumption))) (gPp.pre (av := [.int (nI v1)]) (wc := []) hK hN [] rfl (by decide)) gX5_checkTarget_X5_isNode rfl kd_X5_isNode ⟨by decide, by decide⟩ (st := []) rfl (Nat.le_of_ble_eq_true rfl) dX5_checkTarget_6 ⟨by decide, by decide⟩) (fun u hu => ?_)
  refine g_if_ne (tgt := 23) B dX5_checkTarget_9 (by decide) (fun _ => ?_) (fun c3 => absurd c3 (by decide))
  exact g_vret_p B hr hlocks () (rfl) (trivial) dX5_checkTarget_23

set_option maxRecDepth 100000 in
theorem k_checkTarget_t (l : Launch) {D : va_G} {cI cL cZ cQ : ClassId} (k : Nat)  : PM l yX5_checkTarget wsX5_checkTarget ({ frames := 1, cells := 0, slots := 0, locals := 20 } : Room) D (gTys cI cL cZ cQ) [.int (ks_tI k)] [] (fun (_ : Unit) => True) (fun (_ : Unit) => none) := by
  by_cases h : k < 12
  · rw [ks_tI_lt h]; exact k_checkTarget_n l k h
  · rw [ks_tI_ge h]; exact k_checkTarget_m l

set_option maxHeartbeats 4000000 in
set_option maxRecDepth 100000 in
theorem k_checkSlot_n (l : Launch) {D : va_G} {cI cL cZ cQ : ClassId} (v1 : Nat) (h1 : v1 < 4) : PM l yX5_checkSlot wsX5_checkSlot ({ frames := 0, cells := 0, slots := 0, locals := 0 } : Room) D (gTys cI cL cZ cQ) [.int (nI v1)] [] (fun (_ : Unit) => True) (fun (_ : Unit) => none) := by
  refine PM.ofG cX5_checkSlot 1 none (by decide +kernel) rfl (Nat.le_of_ble_eq_true rfl) ?_
  intro p e s m below meth c B hr hlocks hname hK hN
  refine g_iload_n B dX5_checkSlot_0 0 rfl ?_
  refine g_nif_lt (tgt := 9) B v1 rfl (by omega) dX5_checkSlot_1 (by decide) ?_
  refine g_iload_n B dX5_checkSlot_4 0 rfl ?_
  refine g_iconst (v := (4 : Int32)) B dX5_checkSlot_5 (by decide) ?_
  refine g_ncmp_lt (tgt := 20) B v1 4 rfl rfl (by omega) (by omega) dX5_checkSlot_6 (by decide) (fun c2 => ?_) (fun c2 => ?_)
  rotate_left; · exfalso; omega
  exact g_vret_p B hr hlocks () (rfl) (trivial) dX5_checkSlot_20

set_option maxHeartbeats 4000000 in
set_option maxRecDepth 100000 in
theorem k_checkEdge_n (l : Launch) {D : va_G} {cI cL cZ cQ : ClassId} (v1 : Nat) (h1 : v1 < 24) : PM l yX5_checkEdge wsX5_checkEdge ({ frames := 0, cells := 0, slots := 0, locals := 0 } : Room) D (gTys cI cL cZ cQ) [.int (nI v1)] [] (fun (_ : Unit) => True) (fun (_ : Unit) => none) := by
  refine PM.ofG cX5_checkEdge 1 none (by decide +kernel) rfl (Nat.le_of_ble_eq_true rfl) ?_
  intro p e s m below meth c B hr hlocks hname hK hN
  refine g_iload_n B dX5_checkEdge_0 0 rfl ?_
  refine g_nif_lt (tgt := 10) B v1 rfl (by omega) dX5_checkEdge_1 (by decide) ?_
  refine g_iload_n B dX5_checkEdge_4 0 rfl ?_
  refine g_bipush (v := (24 : Int32)) B dX5_checkEdge_5 (by decide) ?_
  refine g_ncmp_lt (tgt := 21) B v1 24 rfl rfl (by omega) (by omega) dX5_checkEdge_7 (by decide) (fun c2 => ?_) (fun c2 => ?_)
  rotate_left; · exfalso; omega
  exact g_vret_p B hr hlocks () (rfl) (trivial) dX5_checkEdge_21

set_option maxHeartbeats 4000000 in
set_option maxRecDepth 100000 in
theorem k_checkCase_n (l : Launch) {D : va_G} {cI cL cZ cQ : ClassId} (v1 : Nat) (h1 : v1 < 10000) : PM l yX5_checkCase wsX5_checkCase ({ frames := 0, cells := 0, slots := 0, locals := 0 } : Room) D (gTys cI cL cZ cQ) [.int (nI v1)] [] (fun (_ : Unit) => True) (fun (_ : Unit) => none) := by
  refine PM.ofG cX5_checkCase 1 none (by decide +kernel) rfl (Nat.le_of_ble_eq_true rfl) ?_
  intro p e s m below meth c B hr hlocks hname hK hN
  refine g_iload_n B dX5_checkCase_0 0 rfl ?_
  refine g_nif_lt (tgt := 11) B v1 rfl (by omega) dX5_checkCase_1 (by decide) ?_
  refine g_iload_n B dX5_checkCase_4 0 rfl ?_
  refine g_sipush (v := (10000 : Int32)) B dX5_checkCase_5 (by decide) ?_
  refine g_ncmp_lt (tgt := 22) B v1 10000 rfl rfl (by omega) (by omega) dX5_checkCase_8 (by decide) (fun c2 => ?_) (fun c2 => ?_)
  rotate_left; · exfalso; omega
  exact g_vret_p B hr hlocks () (rfl) (trivial) dX5_checkCase_22

set_option maxHeartbeats 4000000 in
set_option maxRecDepth 100000 in
theorem k_checkWeight_n (l : Launch) {D : va_G} {cI cL cZ cQ : ClassId} (v1 : Nat) (h1 : v1 < 10) : PM l yX5_checkWeight wsX5_checkWeight ({ frames := 0, cells := 0, slots := 0, locals := 0 } : Room) D (gTys cI cL cZ cQ) [.int (nI v1)] [] (fun (_ : Unit) => True) (fun (_ : Unit) => none) := by
  refine PM.ofG cX5_checkWeight 1 none (by decide +kernel) rfl (Nat.le_of_ble_eq_true rfl) ?_
  intro p e s m below meth c B hr hlocks hname hK hN
  refine g_iload_n B dX5_checkWeight_0 0 rfl ?_
  refine g_nif_lt (tgt := 10) B v1 rfl (by omega) dX5_checkWeight_1 (by decide) ?_
  refine g_iload_n B dX5_checkWeight_4 0 rfl ?_
  refine g_bipush (v := (9 : Int32)) B dX5_checkWeight_5 (by decide) ?_
  refine g_ncmp_le (tgt := 21) B v1 9 rfl rfl (by omega) (by omega) dX5_checkWeight_7 (by decide) (fun c2 => ?_) (fun c2 => ?_)
  rotate_left; · exfalso; omega
  exact g_vret_p B hr hlocks () (rfl) (trivial) dX5_checkWeight_21

set_option maxHeartbeats 4000000 in
set_option maxRecDepth 100000 in
theorem k_checkQuestion_n (l : Launch) {D : va_G} {cI cL cZ cQ : ClassId} (v1 : Nat) (v2 : Nat) (h1 : v1 < 3) (h2 : v2 < 10) : PM l yX5_checkQuestion wsX5_checkQuestion ({ frames := 0, cells := 0, slots := 0, locals := 0 } : Room) D (gTys cI cL cZ cQ) [.int (nI v1), .int (nI v2)] [] (fun (_ : Unit) => True) (fun (_ : Unit) => none) := by
  refine PM.ofG cX5_checkQuestion 2 none (by decide +kernel) rfl (Nat.le_of_ble_eq_true rfl) ?_
  intro p e s m below meth c B hr hlocks hname hK hN
  refine g_iload_n B dX5_checkQuestion_0 0 rfl ?_
  refine g_nif_lt (tgt := 9) B v1 rfl (by omega) dX5_checkQuestion_1 (by decide) ?_
  refine g_iload_n B dX5_checkQuestion_4 0 rfl ?_
  refine g_iconst (v := (2 : Int32)) B dX5_checkQuestion_5 (by decide) ?_
  refine g_ncmp_le (tgt := 20) B v1 2 rfl rfl (by omega) (by omega) dX5_checkQuestion_6 (by decide) (fun c2 => ?_) (fun c2 => ?_)
  rotate_left; · exfalso; omega
  refine g_iload_n B dX5_checkQuestion_20 1 rfl ?_
  refine g_nif_lt (tgt := 30) B v2 rfl (by omega) dX5_checkQuestion_21 (by decide) ?_
  refine g_iload_n B dX5_checkQuestion_24 1 rfl ?_
  refine g_bipush (v := (10 : Int32)) B dX5_checkQuestion_25 (by decide) ?_
  refine g_ncmp_lt (tgt := 41) B v2 10 rfl rfl (by omega) (by omega) dX5_checkQuestion_27 (by decide) (fun c4 => ?_) (fun c4 => ?_)
  rotate_left; · exfalso; omega
  exact g_vret_p B hr hlocks () (rfl) (trivial) dX5_checkQuestion_41

