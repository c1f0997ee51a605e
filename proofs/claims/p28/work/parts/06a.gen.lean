/-! the class: generator -/
theorem kd_X1_drawnBelow : yX1_drawnBelow.cls ≠ "java/lang/invoke/MethodHandle" ∧ yX1_drawnBelow.cls ≠ "java/lang/invoke/VarHandle" ∧ (parseMethodDescriptor yX1_drawnBelow.desc).map (fun d => d.parameters.length) = some 1 := by decide +kernel
theorem kd_X1_nextValue : yX1_nextValue.cls ≠ "java/lang/invoke/MethodHandle" ∧ yX1_nextValue.cls ≠ "java/lang/invoke/VarHandle" ∧ (parseMethodDescriptor yX1_nextValue.desc).map (fun d => d.parameters.length) = some 1 := by decide +kernel
theorem kd_X1_weightOf : yX1_weightOf.cls ≠ "java/lang/invoke/MethodHandle" ∧ yX1_weightOf.cls ≠ "java/lang/invoke/VarHandle" ∧ (parseMethodDescriptor yX1_weightOf.desc).map (fun d => d.parameters.length) = some 1 := by decide +kernel
theorem kd_X5_withValue : yX5_withValue.cls ≠ "java/lang/invoke/MethodHandle" ∧ yX5_withValue.cls ≠ "java/lang/invoke/VarHandle" ∧ (parseMethodDescriptor yX5_withValue.desc).map (fun d => d.parameters.length) = some 3 := by decide +kernel
theorem hin_X1_drawnBelow_RX1 : ∀ z ∈ u_ws RX1 TX1 4, z ∈ wsX1_drawnBelow := by decide +kernel
theorem hin_X1_nextValue_RX1 : ∀ z ∈ u_ws RX1 TX1 4, z ∈ wsX1_nextValue := by decide +kernel
theorem hin_X1_setWeights_RX1 : ∀ z ∈ u_ws RX1 TX1 4, z ∈ wsX1_setWeights := by decide +kernel
theorem hin_X1_weightOf_RX1 : ∀ z ∈ u_ws RX1 TX1 4, z ∈ wsX1_weightOf := by decide +kernel
def ks_setW (W : Wg) (s a b c : Nat) : Wg := (updN W.1 s a, updN W.2.1 s b, updN W.2.2 s c)
theorem ks_setW_W {W : Wg} (h : ks_WW W) {s a b c : Nat} (h1 : a < 10) (h2 : b < 10) (h3 : c < 10) : ks_WW (ks_setW W s a b c) := fun i hi => ⟨updN_le (h i hi).1 h1, updN_le (h i hi).2.1 h2, updN_le (h i hi).2.2 h3⟩
set_option maxHeartbeats 4000000 in
set_option maxRecDepth 100000 in
theorem k_weightOf (l : Launch) {D : va_G} {cI cL cZ cQ : ClassId} (hg : Nat) (g0 : Nat) (g1 : Nat) (g2 : Nat) (W : Wg) (sx : Int32) (sl : Nat) (h1 : sl < 4) : PM l yX1_weightOf wsX1_weightOf ({ frames := 0, cells := 0, slots := 0, locals := 0 } : Room) D (gTys cI cL cZ cQ) [.ref hg, .int (nI sl)] [(hg, .inr (1, [.ref g0, .ref g1, .ref g2, .int sx])), (g0, .inl (cI, 4, .inl (fun i => nI (W.1 i)))), (g1, .inl (cI, 4, .inl (fun i => nI (W.2.1 i)))), (g2, .inl (cI, 4, .inl (fun i => nI (W.2.2 i))))] (fun (_ : Unit) => True) (fun (_ : Unit) => some (.int (nI (ks_ws W sl)))) := by
  refine PM.ofG cX1_weightOf 2 (some .int) (by decide +kernel) rfl (Nat.le_of_ble_eq_true rfl) ?_
  intro p e s m below meth c B hr hlocks hname hK hN
  refine g_aload_n B dX1_weightOf_0 0 rfl ?_
  refine g_get (C := RX1) (T := TX1) (N := 4) (ci := 1) B hK hin_X1_weightOf_RX1 0 rfl rfl 0 (by decide) (List.mem_of_getElem? (i := 1) rfl) rfl (v := .ref g0) rfl dX1_weightOf_1 ?_
  refine g_iload_n B dX1_weightOf_4 1 rfl ?_
  refine g_iald B hK 1 0 rfl rfl sl rfl (by omega) (by omega) (v := nI (W.1 sl)) rfl dX1_weightOf_5 ?_
  refine g_aload_n B dX1_weightOf_6 0 rfl ?_
  refine g_get (C := RX1) (T := TX1) (N := 4) (ci := 1) B hK hin_X1_weightOf_RX1 0 rfl rfl 1 (by decide) (List.mem_of_getElem? (i := 2) rfl) rfl (v := .ref g1) rfl dX1_weightOf_7 ?_
  refine g_iload_n B dX1_weightOf_10 1 rfl ?_
  refine g_iald B hK 2 0 rfl rfl sl rfl (by omega) (by omega) (v := nI (W.2.1 sl)) rfl dX1_weightOf_11 ?_
  refine g_iadd (v := nI ((W.1 sl) + (W.2.1 sl))) B dX1_weightOf_12 (nI_add (W.1 sl) (W.2.1 sl)) ?_
  refine g_aload_n B dX1_weightOf_13 0 rfl ?_
  refine g_get (C := RX1) (T := TX1) (N := 4) (ci := 1) B hK hin_X1_weightOf_RX1 0 rfl rfl 2 (by decide) (List.mem_of_getElem? (i := 3) rfl) rfl (v := .ref g2) rfl dX1_weightOf_14 ?_
  refine g_iload_n B dX1_weightOf_17 1 rfl ?_
  refine g_iald B hK 3 0 rfl rfl sl rfl (by omega) (by omega) (v := nI (W.2.2 sl)) rfl dX1_weightOf_18 ?_
  refine g_iadd (v := nI (((W.1 sl) + (W.2.1 sl)) + (W.2.2 sl))) B dX1_weightOf_19 (nI_add ((W.1 sl) + (W.2.1 sl)) (W.2.2 sl)) ?_
  exact g_iret_p B hr rfl hlocks () (rfl) (trivial) dX1_weightOf_20

set_option maxHeartbeats 4000000 in
set_option maxRecDepth 100000 in
theorem k_setWeights (l : Launch) {D : va_G} {cI cL cZ cQ : ClassId} (hg : Nat) (g0 : Nat) (g1 : Nat) (g2 : Nat) (W : Wg) (sx : Int32) (b1 : Nat) (b2 : Nat) (b3 : Nat) (b4 : Nat) (h1 : b1 < 4) : WM l yX1_setWeights wsX1_setWeights ({ frames := 0, cells := 0, slots := 0, locals := 0 } : Room) D (gTys cI cL cZ cQ) [.ref hg, .int (nI b1), .int (nI b2), .int (nI b3), .int (nI b4)] [(hg, .inr (1, [.ref g0, .ref g1, .ref g2, .int sx])), (g0, .inl (cI, 4, .inl (fun i => nI (W.1 i)))), (g1, .inl (cI, 4, .inl (fun i => nI (W.2.1 i)))), (g2, .inl (cI, 4, .inl (fun i => nI (W.2.2 i))))] (fun (_ : Unit) => True) (fun (_ : Unit) => none) (fun (_ : Unit) => [(hg, .inr (1, [.ref g0, .ref g1, .ref g2, .int sx])), (g0, .inl (cI, 4, .inl (fun i => nI ((ks_setW W b1 b2 b3 b4).1 i)))), (g1, .inl (cI, 4, .inl (fun i => nI ((ks_setW W b1 b2 b3 b4).2.1 i)))), (g2, .inl (cI, 4, .inl (fun i => nI ((ks_setW W b1 b2 b3 b4).2.2 i))))]) := by
  refine WM.ofG cX1_setWeights 5 none (by decide +kernel) rfl (Nat.le_of_ble_eq_true rfl) ?_
  intro p e s m below meth c A hA B hr hlocks hname hK hN
  refine g_aload_n B dX1_setWeights_0 0 rfl ?_
  refine g_get (C := RX1) (T := TX1) (N := 4) (ci := 1) B hK hin_X1_setWeights_RX1 0 rfl rfl 0 (by decide) (List.mem_of_getElem? (i := 1) rfl) rfl (v := .ref g0) rfl dX1_setWeights_1 ?_
  refine g_iload_n B dX1_setWeights_4 1 rfl ?_
  refine g_iload_n B dX1_setWeights_5 2 rfl ?_
  refine g_iast B hK 1 0 rfl rfl b1 rfl (by omega) (by omega) (f2 := (fun i => nI ((updN W.1 b1 b2) i))) (upd_nI _ _ _) (w2 := [(hg, .inr (1, [.ref g0, .ref g1, .ref g2, .int sx])), (g0, .inl (cI, 4, .inl (fun i => nI ((updN W.1 b1 b2) i)))), (g1, .inl (cI, 4, .inl (fun i => nI (W.2.1 i)))), (g2, .inl (cI, 4, .inl (fun i => nI (W.2.2 i))))]) rfl (fun _ h => h) dX1_setWeights_6 ?_
  refine g_aload_n B dX1_setWeights_7 0 rfl ?_
  refine g_get (C := RX1) (T := TX1) (N := 4) (ci := 1) B hK hin_X1_setWeights_RX1 0 rfl rfl 1 (by decide) (List.mem_of_getElem? (i := 2) rfl) rfl (v := .ref g1) rfl dX1_setWeights_8 ?_
  refine g_iload_n B dX1_setWeights_11 1 rfl ?_
  refine g_iload_n B dX1_setWeights_12 3 rfl ?_
  refine g_iast B hK 2 0 rfl rfl b1 rfl (by omega) (by omega) (f2 := (fun i => nI ((updN W.2.1 b1 b3) i))) (upd_nI _ _ _) (w2 := [(hg, .inr (1, [.ref g0, .ref g1, .ref g2, .int sx])), (g0, .inl (cI, 4, .inl (fun i => nI ((updN W.1 b1 b2) i)))), (g1, .inl (cI, 4, .inl (fun i => nI ((updN W.2.1 b1 b3) i)))), (g2, .inl (cI, 4, .inl (fun i => nI (W.2.2 i))))]) rfl (fun _ h => h) dX1_setWeights_13 ?_
  refine g_aload_n B dX1_setWeights_14 0 rfl ?_
  refine g_get (C := RX1) (T := TX1) (N := 4) (ci := 1) B hK hin_X1_setWeights_RX1 0 rfl rfl 2 (by decide) (List.mem_of_getElem? (i := 3) rfl) rfl (v := .ref g2) rfl dX1_setWeights_15 ?_
  refine g_iload_n B dX1_setWeights_18 1 rfl ?_
  refine g_iload B dX1_setWeights_19 4 rfl ?_
  refine g_iast B hK 3 0 rfl rfl b1 rfl (by omega) (by omega) (f2 := (fun i => nI ((updN W.2.2 b1 b4) i))) (upd_nI _ _ _) (w2 := [(hg, .inr (1, [.ref g0, .ref g1, .ref g2, .int sx])), (g0, .inl (cI, 4, .inl (fun i => nI ((updN W.1 b1 b2) i)))), (g1, .inl (cI, 4, .inl (fun i => nI ((updN W.2.1 b1 b3) i)))), (g2, .inl (cI, 4, .inl (fun i => nI ((updN W.2.2 b1 b4) i))))]) rfl (fun _ h => h) dX1_setWeights_21 ?_
  exact g_vret_w B hr hlocks () (rfl) (trivial) [0, 1, 2, 3] (by decide) rfl dX1_setWeights_22

set_option maxHeartbeats 4000000 in
set_option maxRecDepth 100000 in
theorem k_drawnBelow (l : Launch) {D : va_G} {cI cL cZ cQ : ClassId} (hg : Nat) (g0 : Nat) (g1 : Nat) (g2 : Nat) (sd : Nat) (n : Nat) (hsd : sd < 10000) (h1 : 0 < n) (h2 : n < 1000) : WM l yX1_drawnBelow wsX1_drawnBelow ({ frames := 0, cells := 0, slots := 0, locals := 0 } : Room) D (gTys cI cL cZ cQ) [.ref hg, .int (nI n)] [(hg, .inr (1, [.ref g0, .ref g1, .ref g2, .int (nI sd)]))] (fun (_ : Unit) => True) (fun (_ : Unit) => some (.int (nI (ks_dr sd / 100 % n)))) (fun (_ : Unit) => [(hg, .inr (1, [.ref g0, .ref g1, .ref g2, .int (nI (ks_dr sd))]))]) := by
  refine WM.ofG cX1_drawnBelow 2 (some .int) (by decide +kernel) rfl (Nat.le_of_ble_eq_true rfl) ?_
  intro p e s m below meth c A hA B hr hlocks hname hK hN
  refine g_aload_n B dX1_drawnBelow_0 0 rfl ?_
  refine g_aload_n B dX1_drawnBelow_1 0 rfl ?_
  refine g_get (C := RX1) (T := TX1) (N := 4) (ci := 1) B hK hin_X1_drawnBelow_RX1 0 rfl rfl 3 (by decide) (List.mem_of_getElem? (i := 1) rfl) rfl (v := .int (nI sd)) rfl dX1_drawnBelow_2 ?_
  refine g_sipush (v := (421 : Int32)) B dX1_drawnBelow_5 (by decide) ?_
  refine g_imul (v := nI (sd * 421)) B dX1_drawnBelow_8 (pk_mul sd 421) ?_
  refine g_sipush (v := (1663 : Int32)) B dX1_drawnBelow_9 (by decide) ?_
  refine g_iadd (v := nI ((sd * 421) + 1663)) B dX1_drawnBelow_12 (nI_add (sd * 421) 1663) ?_
  refine g_sipush (v := (10000 : Int32)) B dX1_drawnBelow_13 (by decide) ?_
  refine g_irem (v := nI (((sd * 421) + 1663) % 10000)) B dX1_drawnBelow_16 (by decide) (pk_rem (a := (sd * 421) + 1663) (d := 10000) (by omega) (by decide) (by decide)) ?_
  refine g_put (C := RX1) (T := TX1) (N := 4) (ci := 1) B hK hin_X1_drawnBelow_RX1 0 rfl rfl 3 (by decide) tyX1 tyX1_ok nmX1 (List.mem_of_getElem? (i := 1) rfl) rfl rfl (ty := .int) (v := .int (nI (((sd * 421) + 1663) % 10000))) (by decide +kernel) rfl rfl (Nat.le_of_ble_eq_true rfl) (w2 := [(hg, .inr (1, [.ref g0, .ref g1, .ref g2, .int (nI (((sd * 421) + 1663) % 10000))]))]) rfl (fun _ h => h) dX1_drawnBelow_17 ?_
  refine g_iload_n B dX1_drawnBelow_20 1 rfl ?_
  refine g_iconst (v := (1 : Int32)) B dX1_drawnBelow_21 (by decide) ?_
  refine g_ncmp_ge (tgt := 29) B n 1 rfl rfl (by omega) (by omega) dX1_drawnBelow_22 (by decide) (fun c1 => ?_) (fun c1 => ?_)
  rotate_left; · exfalso; omega
  refine g_aload_n B dX1_drawnBelow_29 0 rfl ?_
  refine g_get (C := RX1) (T := TX1) (N := 4) (ci := 1) B hK hin_X1_drawnBelow_RX1 0 rfl rfl 3 (by decide) (List.mem_of_getElem? (i := 1) rfl) rfl (v := .int (nI (((sd * 421) + 1663) % 10000))) rfl dX1_drawnBelow_30 ?_
  refine g_bipush (v := (100 : Int32)) B dX1_drawnBelow_33 (by decide) ?_
  refine g_idiv (v := nI ((((sd * 421) + 1663) % 10000) / 100)) B dX1_drawnBelow_35 (by decide) (pk_div (a := ((sd * 421) + 1663) % 10000) (d := 100) (by omega) (by decide) (by decide)) ?_
  refine g_iload_n B dX1_drawnBelow_36 1 rfl ?_
  refine g_irem (v := nI (((((sd * 421) + 1663) % 10000) / 100) % n)) B dX1_drawnBelow_37 (nI_ne0 (by omega) (by omega)) (pk_rem (a := (((sd * 421) + 1663) % 10000) / 100) (d := n) (by omega) (by omega) (by omega)) ?_
  exact g_iret_w B hr rfl hlocks () (rfl) (trivial) [0] (by decide) rfl dX1_drawnBelow_38

set_option maxHeartbeats 4000000 in
set_option maxRecDepth 100000 in
theorem k_nextValue (l : Launch) {D : va_G} {cI cL cZ cQ : ClassId} (hg : Nat) (g0 : Nat) (g1 : Nat) (g2 : Nat) (W : Wg) (sd : Nat) (sl : Nat) (hsd : sd < 10000) (hw : ks_WW W) (h1 : sl < 4) : WM l yX1_nextValue wsX1_nextValue ({ frames := 1, cells := 0, slots := 0, locals := 21 } : Room) D (gTys cI cL cZ cQ) [.ref hg, .int (nI sl)] [(hg, .inr (1, [.ref g0, .ref g1, .ref g2, .int (nI sd)])), (g0, .inl (cI, 4, .inl (fun i => nI (W.1 i)))), (g1, .inl (cI, 4, .inl (fun i => nI (W.2.1 i)))), (g2, .inl (cI, 4, .inl (fun i => nI (W.2.2 i))))] (fun (q : Nat × Nat) => q.1 = (ks_nv W sd sl).1 ∧ q.2 = (ks_nv W sd sl).2) (fun (q : Nat × Nat) => some (.int (nI q.1))) (fun (q : Nat × Nat) => [(hg, .inr (1, [.ref g0, .ref g1, .ref g2, .int (nI q.2)])), (g0, .inl (cI, 4, .inl (fun i => nI (W.1 i)))), (g1, .inl (cI, 4, .inl (fun i => nI (W.2.1 i)))), (g2, .inl (cI, 4, .inl (fun i => nI (W.2.2 i))))]) := by
  refine WM.ofG cX1_nextValue 4 (some .int) (by decide +kernel) rfl (Nat.le_of_ble_eq_true rfl) ?_
  intro p e s m below meth c A hA B hr hlocks hname hK hN
  have w0 := hw sl h1
  have w1 : ks_ws W sl = W.1 sl + W.2.1 sl + W.2.2 sl := rfl
  have w2 := ks_dr_lt sd
  refine g_aload_n B dX1_nextValue_0 0 rfl ?_
  refine g_iload_n B dX1_nextValue_1 1 rfl ?_
  refine g_callP (g_runV (q0 := 0) (ci := 1) B hK rfl rfl (PM.met (k_weightOf l (D := D) (cI := cI) (cL := cL) (cZ := cZ) (cQ := cQ) hg g0 g1 g2 W (nI sd) sl (by first | assumption | omega))) (gPp.pre (av := [.ref hg, .int (nI sl)]) (wc := [(hg, .inr (1, [.ref g0, .ref g1, .ref g2, .int (nI sd)])), (g0, .inl (cI, 4, .inl (fun i => nI (W.1 i)))), (g1, .inl (cI, 4, .inl (fun i => nI (W.2.1 i)))), (g2, .inl (cI, 4, .inl (fun i => nI (W.2.2 i))))]) hK hN [0, 1, 2, 3] rfl (by decide)) gX1_nextValue_X1_weightOf rfl rfl kd_X1_weightOf ⟨by decide, by decide⟩ (st := []) rfl (Nat.le_of_ble_eq_true rfl) dX1_nextValue_2 ⟨by decide, by decide⟩) (fun u hu => ?_)
  refine g_istore_n (lv' := [(0, .ref hg), (1, .int (nI sl)), (2, .int (nI (ks_ws W sl)))]) B dX1_nextValue_5 rfl (by decide) [1, 2, 0] rfl ?_
  refine g_iload_n B dX1_nextValue_6 2 rfl ?_
  refine g_nif_ne (tgt := 12) B (ks_ws W sl) rfl (by omega) dX1_nextValue_7 (by decide) (fun c2 => ?_) (fun c2 => ?_)
  · refine g_aload_n B dX1_nextValue_12 0 rfl ?_
    refine g_iload_n B dX1_nextValue_13 2 rfl ?_
    refine g_callW (w2 := (fun (_ : Unit) => [(hg, .inr (1, [.ref g0, .ref g1, .ref g2, .int (nI (ks_dr sd))])), (g0, .inl (cI, 4, .inl (fun i => nI (W.1 i)))), (g1, .inl (cI, 4, .inl (fun i => nI (W.2.1 i)))), (g2, .inl (cI, 4, .inl (fun i => nI (W.2.2 i))))])) (g_runV (q0 := 0) (ci := 1) B hK rfl rfl (k_drawnBelow l (D := D) (cI := cI) (cL := cL) (cZ := cZ) (cQ := cQ) hg g0 g1 g2 sd (ks_ws W sl) (by first | assumption | omega) (by first | assumption | omega) (by first | assumption | omega)) (gPw.pre (av := [.ref hg, .int (nI (ks_ws W sl))]) (wc := [(hg, .inr (1, [.ref g0, .ref g1, .ref g2, .int (nI sd)]))]) hK hN [0] rfl (by decide)) gX1_nextValue_X1_drawnBelow rfl rfl kd_X1_drawnBelow ⟨by decide, by decide⟩ (st := []) rfl (Nat.le_of_ble_eq_true rfl) dX1_nextValue_14 ⟨by decide, by decide⟩) hA (fun _ h => h) [0] [1, 2, 3] (wr := [(g0, .inl (cI, 4, .inl (fun i => nI (W.1 i)))), (g1, .inl (cI, 4, .inl (fun i => nI (W.2.1 i)))), (g2, .inl (cI, 4, .inl (fun i => nI (W.2.2 i))))]) rfl rfl (by decide) (by decide) [3, 0, 1, 2] (by decide) (fun _ => rfl) (fun u hu => ?_)
    refine g_istore_n (lv' := [(0, .ref hg), (1, .int (nI sl)), (2, .int (nI (ks_ws W sl))), (3, .int (nI (ks_dr sd / 100 % ks_ws W sl)))]) B dX1_nextValue_17 rfl (by decide) [1, 2, 3, 0] rfl ?_
    refine g_iload_n B dX1_nextValue_18 3 rfl ?_
    refine g_aload_n B dX1_nextValue_19 0 rfl ?_
    refine g_get (C := RX1) (T := TX1) (N := 4) (ci := 1) B hK hin_X1_nextValue_RX1 0 rfl rfl 0 (by decide) (List.mem_of_getElem? (i := 1) rfl) rfl (v := .ref g0) rfl dX1_nextValue_20 ?_
    refine g_iload_n B dX1_nextValue_23 1 rfl ?_
    refine g_iald B hK 1 0 rfl rfl sl rfl (by omega) (by omega) (v := nI (W.1 sl)) rfl dX1_nextValue_24 ?_
    refine g_ncmp_ge (tgt := 34) B (ks_dr sd / 100 % ks_ws W sl) (W.1 sl) rfl rfl (by omega) (by omega) dX1_nextValue_25 (by decide) (fun c4 => ?_) (fun c4 => ?_)
    · refine g_iload_n B dX1_nextValue_34 3 rfl ?_
      refine g_aload_n B dX1_nextValue_35 0 rfl ?_
      refine g_get (C := RX1) (T := TX1) (N := 4) (ci := 1) B hK hin_X1_nextValue_RX1 0 rfl rfl 0 (by decide) (List.mem_of_getElem? (i := 1) rfl) rfl (v := .ref g0) rfl dX1_nextValue_36 ?_
      refine g_iload_n B dX1_nextValue_39 1 rfl ?_
      refine g_iald B hK 1 0 rfl rfl sl rfl (by omega) (by omega) (v := nI (W.1 sl)) rfl dX1_nextValue_40 ?_
      refine g_aload_n B dX1_nextValue_41 0 rfl ?_
      refine g_get (C := RX1) (T := TX1) (N := 4) (ci := 1) B hK hin_X1_nextValue_RX1 0 rfl rfl 1 (by decide) (List.mem_of_getElem? (i := 2) rfl) rfl (v := .ref g1) rfl dX1_nextValue_42 ?_
      refine g_iload_n B dX1_nextValue_45 1 rfl ?_
      refine g_iald B hK 2 0 rfl rfl sl rfl (by omega) (by omega) (v := nI (W.2.1 sl)) rfl dX1_nextValue_46 ?_
      refine g_iadd (v := nI ((W.1 sl) + (W.2.1 sl))) B dX1_nextValue_47 (nI_add (W.1 sl) (W.2.1 sl)) ?_
      refine g_ncmp_ge (tgt := 59) B (ks_dr sd / 100 % ks_ws W sl) ((W.1 sl) + (W.2.1 sl)) rfl rfl (by omega) (by omega) dX1_nextValue_48 (by decide) (fun c5 => ?_) (fun c5 => ?_)
      · refine g_bipush (v := (7 : Int32)) B dX1_nextValue_59 (by decide) ?_
        refine g_aload_n B dX1_nextValue_61 0 rfl ?_
        refine g_iconst (v := (3 : Int32)) B dX1_nextValue_62 (by decide) ?_
        refine g_callW (w2 := (fun (_ : Unit) => [(hg, .inr (1, [.ref g0, .ref g1, .ref g2, .int (nI (ks_dr (ks_dr sd)))])), (g0, .inl (cI, 4, .inl (fun i => nI (W.1 i)))), (g1, .inl (cI, 4, .inl (fun i => nI (W.2.1 i)))), (g2, .inl (cI, 4, .inl (fun i => nI (W.2.2 i))))])) (g_runV (q0 := 0) (ci := 1) B hK rfl rfl (k_drawnBelow l (D := D) (cI := cI) (cL := cL) (cZ := cZ) (cQ := cQ) hg g0 g1 g2 (ks_dr sd) 3 (by first | assumption | omega) (by first | assumption | omega) (by first | assumption | omega)) (gPw.pre (av := [.ref hg, .int (3 : Int32)]) (wc := [(hg, .inr (1, [.ref g0, .ref g1, .ref g2, .int (nI (ks_dr sd))]))]) hK hN [0] rfl (by decide)) gX1_nextValue_X1_drawnBelow rfl rfl kd_X1_drawnBelow ⟨by decide, by decide⟩ (st := [.int (7 : Int32)]) rfl (Nat.le_of_ble_eq_true rfl) dX1_nextValue_63 ⟨by decide, by decide⟩) hA (fun _ h => h) [0] [1, 2, 3] (wr := [(g0, .inl (cI, 4, .inl (fun i => nI (W.1 i)))), (g1, .inl (cI, 4, .inl (fun i => nI (W.2.1 i)))), (g2, .inl (cI, 4, .inl (fun i => nI (W.2.2 i))))]) rfl rfl (by decide) (by decide) [3, 0, 1, 2] (by decide) (fun _ => rfl) (fun u hu => ?_)
        refine g_iadd (v := nI (7 + (ks_dr ks_dr sd / 100 % 3))) B dX1_nextValue_66 (nI_add 7 (ks_dr ks_dr sd / 100 % 3)) ?_
        exact g_iret_w B hr rfl hlocks (7 + (ks_dr ks_dr sd / 100 % 3), ks_dr (ks_dr sd)) (rfl) (⟨by simp [ks_nv, c2, c4, c5], by simp [ks_nv, c2, c4, c5]⟩) [0, 1, 2, 3] (by decide) rfl dX1_nextValue_67
      · refine g_iconst (v := (3 : Int32)) B dX1_nextValue_51 (by decide) ?_
        refine g_aload_n B dX1_nextValue_52 0 rfl ?_
        refine g_iconst (v := (4 : Int32)) B dX1_nextValue_53 (by decide) ?_
        refine g_callW (w2 := (fun (_ : Unit) => [(hg, .inr (1, [.ref g0, .ref g1, .ref g2, .int (nI (ks_dr (ks_dr sd)))])), (g0, .inl (cI, 4, .inl (fun i => nI (W.1 i)))), (g1, .inl (cI, 4, .inl (fun i => nI (W.2.1 i)))), (g2, .inl (cI, 4, .inl (fun i => nI (W.2.2 i))))])) (g_runV (q0 := 0) (ci := 1) B hK rfl rfl (k_drawnBelow l (D := D) (cI := cI) (cL := cL) (cZ := cZ) (cQ := cQ) hg g0 g1 g2 (ks_dr sd) 4 (by first | assumption | omega) (by first | assumption | omega) (by first | assumption | omega)) (gPw.pre (av := [.ref hg, .int (4 : Int32)]) (wc := [(hg, .inr (1, [.ref g0, .ref g1, .ref g2, .int (nI (ks_dr sd))]))]) hK hN [0] rfl (by decide)) gX1_nextValue_X1_drawnBelow rfl rfl kd_X1_drawnBelow ⟨by decide, by decide⟩ (st := [.int (3 : Int32)]) rfl (Nat.le_of_ble_eq_true rfl) dX1_nextValue_54 ⟨by decide, by decide⟩) hA (fun _ h => h) [0] [1, 2, 3] (wr := [(g0, .inl (cI, 4, .inl (fun i => nI (W.1 i)))), (g1, .inl (cI, 4, .inl (fun i => nI (W.2.1 i)))), (g2, .inl (cI, 4, .inl (fun i => nI (W.2.2 i))))]) rfl rfl (by decide) (by decide) [3, 0, 1, 2] (by decide) (fun _ => rfl) (fun u hu => ?_)
        refine g_iadd (v := nI (3 + (ks_dr ks_dr sd / 100 % 4))) B dX1_nextValue_57 (nI_add 3 (ks_dr ks_dr sd / 100 % 4)) ?_
        exact g_iret_w B hr rfl hlocks (3 + (ks_dr ks_dr sd / 100 % 4), ks_dr (ks_dr sd)) (rfl) (⟨by simp [ks_nv, c2, c4, c5], by simp [ks_nv, c2, c4, c5]⟩) [0, 1, 2, 3] (by decide) rfl dX1_nextValue_58
    · refine g_aload_n B dX1_nextValue_28 0 rfl ?_
      refine g_iconst (v := (3 : Int32)) B dX1_nextValue_29 (by decide) ?_
      refine g_callW (w2 := (fun (_ : Unit) => [(hg, .inr (1, [.ref g0, .ref g1, .ref g2, .int (nI (ks_dr (ks_dr sd)))])), (g0, .inl (cI, 4, .inl (fun i => nI (W.1 i)))), (g1, .inl (cI, 4, .inl (fun i => nI (W.2.1 i)))), (g2, .inl (cI, 4, .inl (fun i => nI (W.2.2 i))))])) (g_runV (q0 := 0) (ci := 1) B hK rfl rfl (k_drawnBelow l (D := D) (cI := cI) (cL := cL) (cZ := cZ) (cQ := cQ) hg g0 g1 g2 (ks_dr sd) 3 (by first | assumption | omega) (by first | assumption | omega) (by first | assumption | omega)) (gPw.pre (av := [.ref hg, .int (3 : Int32)]) (wc := [(hg, .inr (1, [.ref g0, .ref g1, .ref g2, .int (nI (ks_dr sd))]))]) hK hN [0] rfl (by decide)) gX1_nextValue_X1_drawnBelow rfl rfl kd_X1_drawnBelow ⟨by decide, by decide⟩ (st := []) rfl (Nat.le_of_ble_eq_true rfl) dX1_nextValue_30 ⟨by decide, by decide⟩) hA (fun _ h => h) [0] [1, 2, 3] (wr := [(g0, .inl (cI, 4, .inl (fun i => nI (W.1 i)))), (g1, .inl (cI, 4, .inl (fun i => nI (W.2.1 i)))), (g2, .inl (cI, 4, .inl (fun i => nI (W.2.2 i))))]) rfl rfl (by decide) (by decide) [3, 0, 1, 2] (by decide) (fun _ => rfl) (fun u hu => ?_)
      exact g_iret_w B hr rfl hlocks (ks_dr ks_dr sd / 100 % 3, ks_dr (ks_dr sd)) (rfl) (⟨by simp [ks_nv, c2, c4], by simp [ks_nv, c2, c4]⟩) [0, 1, 2, 3] (by decide) rfl dX1_nextValue_33
  · refine g_iconst (v := (0 : Int32)) B dX1_nextValue_10 (by decide) ?_
    exact g_iret_w B hr rfl hlocks (0, sd) (rfl) (⟨by simp [ks_nv, c2], by simp [ks_nv, c2]⟩) [0, 1, 2, 3] (by decide) rfl dX1_nextValue_11

set_option maxHeartbeats 4000000 in
set_option maxRecDepth 100000 in
theorem k_nextCase (l : Launch) {D : va_G} {cI cL cZ cQ : ClassId} (hg : Nat) (g0 : Nat) (g1 : Nat) (g2 : Nat) (W : Wg) (sd : Nat) (hsd : sd < 10000) (hw : ks_WW W) : WM l yX1_nextCase wsX1_nextCase ({ frames := 2, cells := 0, slots := 0, locals := 44 } : Room) D (gTys cI cL cZ cQ) [.ref hg] [(hg, .inr (1, [.ref g0, .ref g1, .ref g2, .int (nI sd)])), (g0, .inl (cI, 4, .inl (fun i => nI (W.1 i)))), (g1, .inl (cI, 4, .inl (fun i => nI (W.2.1 i)))), (g2, .inl (cI, 4, .inl (fun i => nI (W.2.2 i))))] (fun (_ : Unit) => True) (fun (_ : Unit) => some (.int (nI ((ks_nc W sd).1)))) (fun (_ : Unit) => [(hg, .inr (1, [.ref g0, .ref g1, .ref g2, .int (nI ((ks_nc W sd).2))])), (g0, .inl (cI, 4, .inl (fun i => nI (W.1 i)))), (g1, .inl (cI, 4, .inl (fun i => nI (W.2.1 i)))), (g2, .inl (cI, 4, .inl (fun i => nI (W.2.2 i))))]) := by
  refine WM.ofG cX1_nextCase 3 (some .int) (by decide +kernel) rfl (Nat.le_of_ble_eq_true rfl) ?_
  intro p e s m below meth c A hA B hr hlocks hname hK hN
  refine g_iconst (v := (0 : Int32)) B dX1_nextCase_0 (by decide) ?_
  refine g_istore_n (lv' := [(0, .ref hg), (1, .int (0 : Int32))]) B dX1_nextCase_1 rfl (by decide) [1, 0] rfl ?_
  refine g_iconst (v := (0 : Int32)) B dX1_nextCase_2 (by decide) ?_
  refine g_istore_n (lv' := [(0, .ref hg), (1, .int (0 : Int32)), (2, .int (0 : Int32))]) B dX1_nextCase_3 rfl (by decide) [1, 2, 0] rfl ?_
  refine g_loop (σ := Nat) (fun x9 => x9 ≤ 4) (fun x9 => 5 - x9) (fun x9 => 0) (fun x9 => 0) (fun x9 => [(hg, .inr (1, [.ref g0, .ref g1, .ref g2, .int (nI ((ks_nk W sd x9).2))])), (g0, .inl (cI, 4, .inl (fun i => nI (W.1 i)))), (g1, .inl (cI, 4, .inl (fun i => nI (W.2.1 i)))), (g2, .inl (cI, 4, .inl (fun i => nI (W.2.2 i))))]) (fun x9 => [(0, .ref hg), (1, .int (nI ((ks_nk W sd x9).1))), (2, .int (nI x9))]) (fun x9 hI ih4 => ?_) 0 (by (try dsimp only); omega) rfl rfl rfl rfl
  obtain ⟨k, e9⟩ : ∃ z, z = x9 := ⟨_, rfl⟩; subst e9
  try dsimp only at hI ih4 ⊢
  have w1 := ks_nk_2 (W := W) hsd k
  refine g_iload_n B dX1_nextCase_4 2 rfl ?_
  refine g_iconst (v := (4 : Int32)) B dX1_nextCase_5 (by decide) ?_
  refine g_ncmp_ge (tgt := 26) B k 4 rfl rfl (by omega) (by omega) dX1_nextCase_6 (by decide) (fun c1 => ?_) (fun c1 => ?_)
  · refine g_iload_n B dX1_nextCase_26 1 rfl ?_
    obtain rfl : k = 4 := by omega
    exact g_iret_w B hr rfl hlocks () (rfl) (trivial) [0, 1, 2, 3] (by decide) rfl dX1_nextCase_27
  · refine g_iload_n B dX1_nextCase_9 1 rfl ?_
    refine g_bipush (v := (10 : Int32)) B dX1_nextCase_10 (by decide) ?_
    refine g_imul (v := nI (((ks_nk W sd k).1) * 10)) B dX1_nextCase_12 (pk_mul ((ks_nk W sd k).1) 10) ?_
    refine g_aload_n B dX1_nextCase_13 0 rfl ?_
    refine g_iload_n B dX1_nextCase_14 2 rfl ?_
    refine g_callW (w2 := (fun (z9 : Nat × Nat) => [(hg, .inr (1, [.ref g0, .ref g1, .ref g2, .int (nI z9.2)])), (g0, .inl (cI, 4, .inl (fun i => nI (W.1 i)))), (g1, .inl (cI, 4, .inl (fun i => nI (W.2.1 i)))), (g2, .inl (cI, 4, .inl (fun i => nI (W.2.2 i))))])) (g_runV (q0 := 0) (ci := 1) B hK rfl rfl (k_nextValue l (D := D) (cI := cI) (cL := cL) (cZ := cZ) (cQ := cQ) hg g0 g1 g2 W ((ks_nk W sd k).2) k (by first | assumption | omega) (by first | assumption | omega) (by first | assumption | omega)) (gPw.pre (av := [.ref hg, .int (nI k)]) (wc := [(hg, .inr (1, [.ref g0, .ref g1, .ref g2, .int (nI ((ks_nk W sd k).2))])), (g0, .inl (cI, 4, .inl (fun i => nI (W.1 i)))), (g1, .inl (cI, 4, .inl (fun i => nI (W.2.1 i)))), (g2, .inl (cI, 4, .inl (fun i => nI (W.2.2 i))))]) hK hN [0, 1, 2, 3] rfl (by decide)) gX1_nextCase_X1_nextValue rfl rfl kd_X1_nextValue ⟨by decide, by decide⟩ (st := [.int (nI (((ks_nk W sd k).1) * 10))]) rfl (Nat.le_of_ble_eq_true rfl) dX1_nextCase_15 ⟨by decide, by decide⟩) hA (fun _ h => h) [0, 1, 2, 3] [] (wr := []) rfl rfl (by decide) (by decide) [0, 1, 2, 3] (by decide) (fun _ => rfl) (fun u hu => ?_)
    obtain ⟨v2_2, sd2_2⟩ := u
    try dsimp only at hu ⊢
    obtain ⟨e2_0, e2_1⟩ := hu
    subst e2_0
    subst e2_1
    refine g_iadd (v := nI ((((ks_nk W sd k).1) * 10) + v2_2)) B dX1_nextCase_18 (nI_add (((ks_nk W sd k).1) * 10) v2_2) ?_
    refine g_istore_n (lv' := [(0, .ref hg), (1, .int (nI ((((ks_nk W sd k).1) * 10) + v2_2))), (2, .int (nI k))]) B dX1_nextCase_19 rfl (by decide) [1, 0, 2] rfl ?_
    refine g_iinc (lv' := [(0, .ref hg), (1, .int (nI ((((ks_nk W sd k).1) * 10) + v2_2))), (2, .int (nI (k + 1)))]) B dX1_nextCase_20 2 rfl (nI_1 k) (by decide) [1, 2, 0] rfl ?_
    refine g_goto (tgt := 4) B dX1_nextCase_23 (by decide) ?_
    exact ih4 (k + 1) (by (try dsimp only); omega) (by (try dsimp only); omega)

set_option maxHeartbeats 4000000 in
set_option maxRecDepth 100000 in
theorem k_mutantOf (l : Launch) {D : va_G} {cI cL cZ cQ : ClassId} (hg : Nat) (g0 : Nat) (g1 : Nat) (g2 : Nat) (sd : Nat) (t : Nat) (hsd : sd < 10000) (ht1 : t < 10000) : WM l yX1_mutantOf wsX1_mutantOf ({ frames := 2, cells := 0, slots := 0, locals := 43 } : Room) D (gTys cI cL cZ cQ) [.ref hg, .int (nI t)] [(hg, .inr (1, [.ref g0, .ref g1, .ref g2, .int (nI sd)]))] (fun (_ : Unit) => True) (fun (_ : Unit) => some (.int (nI (ks_mt sd t)))) (fun (_ : Unit) => [(hg, .inr (1, [.ref g0, .ref g1, .ref g2, .int (nI (ks_dr (ks_dr sd)))]))]) := by
  refine WM.ofG cX1_mutantOf 4 (some .int) (by decide +kernel) rfl (Nat.le_of_ble_eq_true rfl) ?_
  intro p e s m below meth c A hA B hr hlocks hname hK hN
  have w1 := ks_dr_lt sd
  have w2 := ks_dr_lt (ks_dr sd)
  have w3 := ks_dg_lt t (ks_dr sd / 100 % 4)
  refine g_aload_n B dX1_mutantOf_0 0 rfl ?_
  refine g_iconst (v := (4 : Int32)) B dX1_mutantOf_1 (by decide) ?_
  refine g_callW (w2 := (fun (_ : Unit) => [(hg, .inr (1, [.ref g0, .ref g1, .ref g2, .int (nI (ks_dr sd))]))])) (g_runV (q0 := 0) (ci := 1) B hK rfl rfl (k_drawnBelow l (D := D) (cI := cI) (cL := cL) (cZ := cZ) (cQ := cQ) hg g0 g1 g2 sd 4 (by first | assumption | omega) (by first | assumption | omega) (by first | assumption | omega)) (gPw.pre (av := [.ref hg, .int (4 : Int32)]) (wc := [(hg, .inr (1, [.ref g0, .ref g1, .ref g2, .int (nI sd)]))]) hK hN [0] rfl (by decide)) gX1_mutantOf_X1_drawnBelow rfl rfl kd_X1_drawnBelow ⟨by decide, by decide⟩ (st := []) rfl (Nat.le_of_ble_eq_true rfl) dX1_mutantOf_2 ⟨by decide, by decide⟩) hA (fun _ h => h) [0] [] (wr := []) rfl rfl (by decide) (by decide) [0] (by decide) (fun _ => rfl) (fun u hu => ?_)
  refine g_istore_n (lv' := [(0, .ref hg), (1, .int (nI t)), (2, .int (nI (ks_dr sd / 100 % 4)))]) B dX1_mutantOf_5 rfl (by decide) [1, 2, 0] rfl ?_
  refine g_iload_n B dX1_mutantOf_6 1 rfl ?_
  refine g_iload_n B dX1_mutantOf_7 2 rfl ?_
  refine g_callP (g_runSN B hN (PM.met (k_valueOf l (D := D) (cI := cI) (cL := cL) (cZ := cZ) (cQ := cQ) t (ks_dr sd / 100 % 4) (by first | assumption | omega) (by first | assumption | omega))) (gPp.pre (av := [.int (nI t), .int (nI (ks_dr sd / 100 % 4))]) (wc := []) hK hN [] rfl (by decide)) gX1_mutantOf_X5_valueOf_n38 (List.mem_of_getElem? (i := 8) rfl) (List.mem_of_getElem? (i := 7) rfl) 6 rfl rfl kd_X5_valueOf ⟨by decide, by decide⟩ (st := []) rfl (Nat.le_of_ble_eq_true rfl) dX1_mutantOf_8 ⟨by decide, by decide⟩) (fun u hu => ?_)
  refine g_iconst (v := (1 : Int32)) B dX1_mutantOf_11 (by decide) ?_
  refine g_iadd (v := nI ((ks_dg t ks_dr sd / 100 % 4) + 1)) B dX1_mutantOf_12 (nI_add (ks_dg t ks_dr sd / 100 % 4) 1) ?_
  refine g_aload_n B dX1_mutantOf_13 0 rfl ?_
  refine g_bipush (v := (9 : Int32)) B dX1_mutantOf_14 (by decide) ?_
  refine g_callW (w2 := (fun (_ : Unit) => [(hg, .inr (1, [.ref g0, .ref g1, .ref g2, .int (nI (ks_dr (ks_dr sd)))]))])) (g_runV (q0 := 0) (ci := 1) B hK rfl rfl (k_drawnBelow l (D := D) (cI := cI) (cL := cL) (cZ := cZ) (cQ := cQ) hg g0 g1 g2 (ks_dr sd) 9 (by first | assumption | omega) (by first | assumption | omega) (by first | assumption | omega)) (gPw.pre (av := [.ref hg, .int (9 : Int32)]) (wc := [(hg, .inr (1, [.ref g0, .ref g1, .ref g2, .int (nI (ks_dr sd))]))]) hK hN [0] rfl (by decide)) gX1_mutantOf_X1_drawnBelow rfl rfl kd_X1_drawnBelow ⟨by decide, by decide⟩ (st := [.int (nI ((ks_dg t ks_dr sd / 100 % 4) + 1))]) rfl (Nat.le_of_ble_eq_true rfl) dX1_mutantOf_16 ⟨by decide, by decide⟩) hA (fun _ h => h) [0] [] (wr := []) rfl rfl (by decide) (by decide) [0] (by decide) (fun _ => rfl) (fun u hu => ?_)
  refine g_iadd (v := nI (((ks_dg t ks_dr sd / 100 % 4) + 1) + (ks_dr ks_dr sd / 100 % 9))) B dX1_mutantOf_19 (nI_add ((ks_dg t ks_dr sd / 100 % 4) + 1) (ks_dr ks_dr sd / 100 % 9)) ?_
  refine g_istore_n (lv' := [(0, .ref hg), (1, .int (nI t)), (2, .int (nI (ks_dr sd / 100 % 4))), (3, .int (nI (((ks_dg t ks_dr sd / 100 % 4) + 1) + (ks_dr ks_dr sd / 100 % 9))))]) B dX1_mutantOf_20 rfl (by decide) [1, 2, 3, 0] rfl ?_
  refine g_iload_n B dX1_mutantOf_21 1 rfl ?_
  refine g_iload_n B dX1_mutantOf_22 2 rfl ?_
  refine g_iload_n B dX1_mutantOf_23 3 rfl ?_
  refine g_bipush (v := (10 : Int32)) B dX1_mutantOf_24 (by decide) ?_
  refine g_ncmp_lt (tgt := 36) B (((ks_dg t ks_dr sd / 100 % 4) + 1) + (ks_dr ks_dr sd / 100 % 9)) 10 rfl rfl (by omega) (by omega) dX1_mutantOf_26 (by decide) (fun c4 => ?_) (fun c4 => ?_)
  · refine g_iload_n B dX1_mutantOf_36 3 rfl ?_
    refine g_callP (g_runSN B hN (PM.met (k_withValue l (D := D) (cI := cI) (cL := cL) (cZ := cZ) (cQ := cQ) t (ks_dr sd / 100 % 4) (((ks_dg t ks_dr sd / 100 % 4) + 1) + (ks_dr ks_dr sd / 100 % 9)) (by first | assumption | omega) (by first | assumption | omega))) (gPp.pre (av := [.int (nI t), .int (nI (ks_dr sd / 100 % 4)), .int (nI (((ks_dg t ks_dr sd / 100 % 4) + 1) + (ks_dr ks_dr sd / 100 % 9)))]) (wc := []) hK hN [] rfl (by decide)) gX1_mutantOf_X5_withValue_n42 (List.mem_of_getElem? (i := 8) rfl) (List.mem_of_getElem? (i := 10) rfl) 7 rfl rfl kd_X5_withValue ⟨by decide, by decide⟩ (st := []) rfl (Nat.le_of_ble_eq_true rfl) dX1_mutantOf_37 ⟨by decide, by decide⟩) (fun u hu => ?_)
    exact g_iret_w B hr rfl hlocks () (by show some (Value.int (nI (ks_wv t (ks_dr sd / 100 % 4) _))) = some (Value.int (nI (ks_wv t (ks_dr sd / 100 % 4) _))); congr 4; omega) (trivial) [0] (by decide) rfl dX1_mutantOf_40
  · refine g_iload_n B dX1_mutantOf_29 3 rfl ?_
    refine g_bipush (v := (10 : Int32)) B dX1_mutantOf_30 (by decide) ?_
    refine g_isub (v := nI ((((ks_dg t ks_dr sd / 100 % 4) + 1) + (ks_dr ks_dr sd / 100 % 9)) - 10)) B dX1_mutantOf_32 (pk_sub (by omega)) ?_
    refine g_goto (tgt := 37) B dX1_mutantOf_33 (by decide) ?_
    refine g_callP (g_runSN B hN (PM.met (k_withValue l (D := D) (cI := cI) (cL := cL) (cZ := cZ) (cQ := cQ) t (ks_dr sd / 100 % 4) ((((ks_dg t ks_dr sd / 100 % 4) + 1) + (ks_dr ks_dr sd / 100 % 9)) - 10) (by first | assumption | omega) (by first | assumption | omega))) (gPp.pre (av := [.int (nI t), .int (nI (ks_dr sd / 100 % 4)), .int (nI ((((ks_dg t ks_dr sd / 100 % 4) + 1) + (ks_dr ks_dr sd / 100 % 9)) - 10))]) (wc := []) hK hN [] rfl (by decide)) gX1_mutantOf_X5_withValue_n42 (List.mem_of_getElem? (i := 8) rfl) (List.mem_of_getElem? (i := 10) rfl) 7 rfl rfl kd_X5_withValue ⟨by decide, by decide⟩ (st := []) rfl (Nat.le_of_ble_eq_true rfl) dX1_mutantOf_37 ⟨by decide, by decide⟩) (fun u hu => ?_)
    exact g_iret_w B hr rfl hlocks () (by show some (Value.int (nI (ks_wv t (ks_dr sd / 100 % 4) _))) = some (Value.int (nI (ks_wv t (ks_dr sd / 100 % 4) _))); congr 4; omega) (trivial) [0] (by decide) rfl dX1_mutantOf_40

