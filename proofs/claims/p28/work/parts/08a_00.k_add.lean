set_option maxHeartbeats 400000 in
set_option maxRecDepth 100000 in
theorem k_add (l : Launch) {D : va_G} {cI cL cZ cQ : ClassId} (hq : Nat) (r0 : Nat) (r1 : Nat) (r2 : Nat) (Q : Rg) (rc : Nat) (b1 : Nat) (b2 : Nat) (b3 : Nat) (hc : rc < 6) : WM l yX3_add wsX3_add ({ frames := 0, cells := 0, slots := 0, locals := 0 } : Room) D (gTys cI cL cZ cQ) [.ref hq, .int (nI b1), .int (nI b2), .int (nI b3)] [(hq, .inr (3, [.ref r0, .ref r1, .ref r2, .int (nI rc)])), (r0, .inl (cI, 6, .inl (fun i => nI (Q.1 i)))), (r1, .inl (cI, 6, .inl (fun i => nI (Q.2.1 i)))), (r2, .inl (cI, 6, .inl (fun i => nI (Q.2.2 i))))] (fun (_ : Unit) => True) (fun (_ : Unit) => some (.int (nI rc))) (fun (_ : Unit) => [(hq, .inr (3, [.ref r0, .ref r1, .ref r2, .int (nI (rc + 1))])), (r0, .inl (cI, 6, .inl (fun i => nI ((ks_setR Q rc b1 b2 b3).1 i)))), (r1, .inl (cI, 6, .inl (fun i => nI ((ks_setR Q rc b1 b2 b3).2.1 i)))), (r2, .inl (cI, 6, .inl (fun i => nI ((ks_setR Q rc b1 b2 b3).2.2 i))))]) := by
  refine WM.ofG cX3_add 4 (some .int) (by decide +kernel) rfl (Nat.le_of_ble_eq_true rfl) ?_
  intro p e s m below meth c A hA B hr hlocks hname hK hN
  refine g_aload_n B dX3_add_0 0 rfl ?_
  refine g_get (C := RX3) (T := TX3) (N := 4) (ci := 3) B hK hin_X3_add_RX3 0 rfl rfl 0 (by decide) (List.mem_of_getElem? (i := 1) rfl) rfl (v := .ref r0) rfl dX3_add_1 ?_
  refine g_aload_n B dX3_add_4 0 rfl ?_
  refine g_get (C := RX3) (T := TX3) (N := 4) (ci := 3) B hK hin_X3_add_RX3 0 rfl rfl 3 (by decide) (List.mem_of_getElem? (i := 2) rfl) rfl (v := .int (nI rc)) rfl dX3_add_5 ?_
  refine g_iload_n B dX3_add_8 1 rfl ?_
  refine g_iast B hK 1 0 rfl rfl rc rfl (by omega) (by omega) (f2 := (fun i => nI ((updN Q.1 rc b1) i))) (upd_nI _ _ _) (w2 := [(hq, .inr (3, [.ref r0, .ref r1, .ref r2, .int (nI rc)])), (r0, .inl (cI, 6, .inl (fun i => nI ((updN Q.1 rc b1) i)))), (r1, .inl (cI, 6, .inl (fun i => nI (Q.2.1 i)))), (r2, .inl (cI, 6, .inl (fun i => nI (Q.2.2 i))))]) rfl (fun _ h => h) dX3_add_9 ?_
  refine g_aload_n B dX3_add_10 0 rfl ?_
  refine g_get (C := RX3) (T := TX3) (N := 4) (ci := 3) B hK hin_X3_add_RX3 0 rfl rfl 1 (by decide) (List.mem_of_getElem? (i := 3) rfl) rfl (v := .ref r1) rfl dX3_add_11 ?_
  refine g_aload_n B dX3_add_14 0 rfl ?_
  refine g_get (C := RX3) (T := TX3) (N := 4) (ci := 3) B hK hin_X3_add_RX3 0 rfl rfl 3 (by decide) (List.mem_of_getElem? (i := 2) rfl) rfl (v := .int (nI rc)) rfl dX3_add_15 ?_
  refine g_iload_n B dX3_add_18 2 rfl ?_
  refine g_iast B hK 2 0 rfl rfl rc rfl (by omega) (by omega) (f2 := (fun i => nI ((updN Q.2.1 rc b2) i))) (upd_nI _ _ _) (w2 := [(hq, .inr (3, [.ref r0, .ref r1, .ref r2, .int (nI rc)])), (r0, .inl (cI, 6, .inl (fun i => nI ((updN Q.1 rc b1) i)))), (r1, .inl (cI, 6, .inl (fun i => nI ((updN Q.2.1 rc b2) i)))), (r2, .inl (cI, 6, .inl (fun i => nI (Q.2.2 i))))]) rfl (fun _ h => h) dX3_add_19 ?_
  refine g_aload_n B dX3_add_20 0 rfl ?_
  refine g_get (C := RX3) (T := TX3) (N := 4) (ci := 3) B hK hin_X3_add_RX3 0 rfl rfl 2 (by decide) (List.mem_of_getElem? (i := 4) rfl) rfl (v := .ref r2) rfl dX3_add_21 ?_
  refine g_aload_n B dX3_add_24 0 rfl ?_
  refine g_get (C := RX3) (T := TX3) (N := 4) (ci := 3) B hK hin_X3_add_RX3 0 rfl rfl 3 (by decide) (List.mem_of_getElem? (i := 2) rfl) rfl (v := .int (nI rc)) rfl dX3_add_25 ?_
  refine g_iload_n B dX3_add_28 3 rfl ?_
  refine g_iast B hK 3 0 rfl rfl rc rfl (by omega) (by omega) (f2 := (fun i => nI ((updN Q.2.2 rc b3) i))) (upd_nI _ _ _) (w2 := [(hq, .inr (3, [.ref r0, .ref r1, .ref r2, .int (nI rc)])), (r0, .inl (cI, 6, .inl (fun i => nI ((updN Q.1 rc b1) i)))), (r1, .inl (cI, 6, .inl (fun i => nI ((updN Q.2.1 rc b2) i)))), (r2, .inl (cI, 6, .inl (fun i => nI ((updN Q.2.2 rc b3) i))))]) rfl (fun _ h => h) dX3_add_29 ?_
  refine g_aload_n B dX3_add_30 0 rfl ?_
  refine g_dup B dX3_add_31 rfl ?_
  refine g_get (C := RX3) (T := TX3) (N := 4) (ci := 3) B hK hin_X3_add_RX3 0 rfl rfl 3 (by decide) (List.mem_of_getElem? (i := 2) rfl) rfl (v := .int (nI rc)) rfl dX3_add_32 ?_
  refine g_iconst (v := (1 : Int32)) B dX3_add_35 (by decide) ?_
  refine g_iadd (v := nI (rc + 1)) B dX3_add_36 (nI_add rc 1) ?_
  refine g_put (C := RX3) (T := TX3) (N := 4) (ci := 3) B hK hin_X3_add_RX3 0 rfl rfl 3 (by decide) tyX3 tyX3_ok nmX3 (List.mem_of_getElem? (i := 2) rfl) rfl rfl (ty := .int) (v := .int (nI (rc + 1))) (by decide +kernel) rfl rfl (Nat.le_of_ble_eq_true rfl) (w2 := [(hq, .inr (3, [.ref r0, .ref r1, .ref r2, .int (nI (rc + 1))])), (r0, .inl (cI, 6, .inl (fun i => nI ((updN Q.1 rc b1) i)))), (r1, .inl (cI, 6, .inl (fun i => nI ((updN Q.2.1 rc b2) i)))), (r2, .inl (cI, 6, .inl (fun i => nI ((updN Q.2.2 rc b3) i))))]) rfl (fun _ h => h) dX3_add_37 ?_
  refine g_aload_n B dX3_add_40 0 rfl ?_
  refine g_get (C := RX3) (T := TX3) (N := 4) (ci := 3) B hK hin_X3_add_RX3 0 rfl rfl 3 (by decide) (List.mem_of_getElem? (i := 2) rfl) rfl (v := .int (nI (rc + 1))) rfl dX3_add_41 ?_
  refine g_iconst (v := (1 : Int32)) B dX3_add_44 (by decide) ?_
  refine g_isub (v := nI ((rc + 1) - 1)) B dX3_add_45 (pk_sub (a := rc + 1) (b := 1) (by omega)) ?_
  refine g_eqi (y := nI rc) (by rw [show rc + 1 - 1 = rc by omega]) ?_
  exact g_iret_w B hr rfl hlocks () (rfl) (trivial) [0, 1, 2, 3] (by decide) rfl dX3_add_46

