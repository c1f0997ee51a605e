set_option maxHeartbeats 4000000 in
set_option maxRecDepth 100000 in
theorem k_weightOf (l : Launch) {D : va_G} {cI cL cZ cQ : ClassId} (hg : Nat) (g0 : Nat) (g1 : Nat) (g2 : Nat) (W : Wg) (sx : Int32) (sl : Nat) (h1 : sl < 4) : PM l yX1_weightOf wsX1_weightOf ({ frames := 0, cells := 0, slots := 0, locals := 0 } : Room) D (gTys cI cL cZ cQ) [.ref hg, .int (nI sl)] [(hg, .inr (1, [.ref g0, .ref g1, .ref g2, .int sx])), (g0, .inl (cI, 4, .inl (fun i => nI (W.1 i)))), (g1, .inl (cI, 4, .inl (fun i => nI (W.2.1 i)))), (g2, .inl (cI, 4, .inl (fun i => nI (W.2.2 i))))] (fun (_ : Unit) => True) (fun (_ : Unit) => some (.int (nI (ks_ws W sl)))) := by
  refine PM.ofG cX1_weightOf 2 (some .int) (by decide +kernel) rfl (Nat.le_of_ble_eq_true rfl) ?_
  intro p e s m below meth c B hr hlocks hname hK hN
  refine g_aload_n B dX1_weightOf_0 0 rfl ?_
  refine g_get (C := RX1) (T := TX1) (N := 4) (ci := 1) B hK hin_X1_weightOf_RX1 0 rfl rfl 0 (by decide) (List.mem_of_getElem? (i := 1) rfl) rfl (v := .ref g0) rfl dX1_weightOf_1 ?_
  refine g_iload_n B dX1_weightOf_4 1 rfl ?_
  refine g_iald B hK 1 0 rfl rfl sl rfl (by omega) (by omega) (v := nI (W.1 sl)) rfl dX1_weightOf_5 ?_
  refine g_aload_n B dX1_weightOf_6 0 rfl ?_
  refine g_get (C := RX1) (T := TX1) (N := 4) (ci := 1) B hK hin_X1_weightOf_RX1 0 rfl rfl 1 (by decide) (List.mem_of_getElem? (i := 2) rfl) rfl (v := .ref g1) rfl dX1_weightOf_7 ?_
  refine g_iload_n B dX1_weightOf_10 1 rfl ?_
  refine g_iald B hK 2 0 rfl rfl sl rfl (by omega) (by omega) (v := nI (W.2.1 sl)) rfl dX1_weightOf_11 ?_
  refine g_iadd (v := nI ((W.1 sl) + (W.2.1 sl))) B dX1_weightOf_12 (nI_add (W.1 sl) (W.2.1 sl)) ?_
  refine g_aload_n B dX1_weightOf_13 0 rfl ?_
  refine g_get (C := RX1) (T := TX1) (N := 4) (ci := 1) B hK hin_X1_weightOf_RX1 0 rfl rfl 2 (by decide) (List.mem_of_getElem? (i := 3) rfl) rfl (v := .ref g2) rfl dX1_weightOf_14 ?_
  refine g_iload_n B dX1_weightOf_17 1 rfl ?_
  refine g_iald B hK 3 0 rfl rfl sl rfl (by omega) (by omega) (v := nI (W.2.2 sl)) rfl dX1_weightOf_18 ?_
  refine g_iadd (v := nI (((W.1 sl) + (W.2.1 sl)) + (W.2.2 sl))) B dX1_weightOf_19 (nI_add ((W.1 sl) + (W.2.1 sl)) (W.2.2 sl)) ?_
  exact g_iret_p B hr rfl hlocks () (rfl) (trivial) dX1_weightOf_20

