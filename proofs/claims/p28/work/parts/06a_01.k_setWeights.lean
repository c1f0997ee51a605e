set_option maxHeartbeats 4000000 in
set_option maxRecDepth 100000 in
theorem k_setWeights (l : Launch) {D : va_G} {cI cL cZ cQ : ClassId} (hg : Nat) (g0 : Nat) (g1 : Nat) (g2 : Nat) (W : Wg) (sx : Int32) (b1 : Nat) (b2 : Nat) (b3 : Nat) (b4 : Nat) (h1 : b1 < 4) : WM l yX1_setWeights wsX1_setWeights ({ frames := 0, cells := 0, slots := 0, locals := 0 } : Room) D (gTys cI cL cZ cQ) [.ref hg, .int (nI b1), .int (nI b2), .int (nI b3), .int (nI b4)] [(hg, .inr (1, [.ref g0, .ref g1, .ref g2, .int sx])), (g0, .inl (cI, 4, .inl (fun i => nI (W.1 i)))), (g1, .inl (cI, 4, .inl (fun i => nI (W.2.1 i)))), (g2, .inl (cI, 4, .inl (fun i => nI (W.2.2 i))))] (fun (_ : Unit) => True) (fun (_ : Unit) => none) (fun (_ : Unit) => [(hg, .inr (1, [.ref g0, .ref g1, .ref g2, .int sx])), (g0, .inl (cI, 4, .inl (fun i => nI ((ks_setW W b1 b2 b3 b4).1 i)))), (g1, .inl (cI, 4, .inl (fun i => nI ((ks_setW W b1 b2 b3 b4).2.1 i)))), (g2, .inl (cI, 4, .inl (fun i => nI ((ks_setW W b1 b2 b3 b4).2.2 i))))]) := by
  refine WM.ofG cX1_setWeights 5 none (by decide +kernel) rfl (Nat.le_of_ble_eq_true rfl) ?_
  intro p e s m below meth c A hA B hr hlocks hname hK hN
  refine g_aload_n B dX1_setWeights_0 0 rfl ?_
  refine g_get (C := RX1) (T := TX1) (N := 4) (ci := 1) B hK hin_X1_setWeights_RX1 0 rfl rfl 0 (by decide) (List.mem_of_getElem? (i := 1) rfl) rfl (v := .ref g0) rfl dX1_setWeights_1 ?_
  refine g_iload_n B dX1_setWeights_4 1 rfl ?_
  refine g_iload_n B dX1_setWeights_5 2 rfl ?_
  refine g_iast B hK 1 0 rfl rfl b1 rfl (by omega) (by omega) (f2 := (fun i => nI ((updN W.1 b1 b2) i))) (upd_nI _ _ _) (w2 := [(hg, .inr (1, [.ref g0, .ref g1, .ref g2, .int sx])), (g0, .inl (cI, 4, .inl (fun i => nI ((updN W.1 b1 b2) i)))), (g1, .inl (cI, 4, .inl (fun i => nI (W.2.1 i)))), (g2, .inl (cI, 4, .inl (fun i => nI (W.2.2 i))))]) rfl (fun _ h => h) dX1_setWeights_6 ?_
  refine g_aload_n B dX1_setWeights_7 0 rfl ?_
  refine g_get (C := RX1) (T := TX1) (N := 4) (ci := 1) B hK hin_X1_setWeights_RX1 0 rfl rfl 1 (by decide) (List.mem_of_getElem? (i := 2) rfl) rfl (v := .ref g1) rfl dX1_setWeights_8 ?_
  refine g_iload_n B dX1_setWeights_11 1 rfl ?_
  refine g_iload_n B dX1_setWeights_12 3 rfl ?_
  refine g_iast B hK 2 0 rfl rfl b1 rfl (by omega) (by omega) (f2 := (fun i => nI ((updN W.2.1 b1 b3) i))) (upd_nI _ _ _) (w2 := [(hg, .inr (1, [.ref g0, .ref g1, .ref g2, .int sx])), (g0, .inl (cI, 4, .inl (fun i => nI ((updN W.1 b1 b2) i)))), (g1, .inl (cI, 4, .inl (fun i => nI ((updN W.2.1 b1 b3) i)))), (g2, .inl (cI, 4, .inl (fun i => nI (W.2.2 i))))]) rfl (fun _ h => h) dX1_setWeights_13 ?_
  refine g_aload_n B dX1_setWeights_14 0 rfl ?_
  refine g_get (C := RX1) (T := TX1) (N := 4) (ci := 1) B hK hin_X1_setWeights_RX1 0 rfl rfl 2 (by decide) (List.mem_of_getElem? (i := 3) rfl) rfl (v := .ref g2) rfl dX1_setWeights_15 ?_
  refine g_iload_n B dX1_setWeights_18 1 rfl ?_
  refine g_iload B dX1_setWeights_19 4 rfl ?_
  refine g_iast B hK 3 0 rfl rfl b1 rfl (by omega) (by omega) (f2 := (fun i => nI ((updN W.2.2 b1 b4) i))) (upd_nI _ _ _) (w2 := [(hg, .inr (1, [.ref g0, .ref g1, .ref g2, .int sx])), (g0, .inl (cI, 4, .inl (fun i => nI ((updN W.1 b1 b2) i)))), (g1, .inl (cI, 4, .inl (fun i => nI ((updN W.2.1 b1 b3) i)))), (g2, .inl (cI, 4, .inl (fun i => nI ((updN W.2.2 b1 b4) i))))]) rfl (fun _ h => h) dX1_setWeights_21 ?_
  exact g_vret_w B hr hlocks () (rfl) (trivial) [0, 1, 2, 3] (by decide) rfl dX1_setWeights_22

