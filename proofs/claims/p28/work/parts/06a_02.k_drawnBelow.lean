set_option maxHeartbeats 4000000 in
set_option maxRecDepth 100000 in
theorem k_drawnBelow (l : Launch) {D : va_G} {cI cL cZ cQ : ClassId} (hg : Nat) (g0 : Nat) (g1 : Nat) (g2 : Nat) (sd : Nat) (n : Nat) (hsd : sd < 10000) (h1 : 0 < n) (h2 : n < 1000) : WM l yX1_drawnBelow wsX1_drawnBelow ({ frames := 0, cells := 0, slots := 0, locals := 0 } : Room) D (gTys cI cL cZ cQ) [.ref hg, .int (nI n)] [(hg, .inr (1, [.ref g0, .ref g1, .ref g2, .int (nI sd)]))] (fun (_ : Unit) => True) (fun (_ : Unit) => some (.int (nI (ks_dr sd / 100 % n)))) (fun (_ : Unit) => [(hg, .inr (1, [.ref g0, .ref g1, .ref g2, .int (nI (ks_dr sd))]))]) := by
  refine WM.ofG cX1_drawnBelow 2 (some .int) (by decide +kernel) rfl (Nat.le_of_ble_eq_true rfl) ?_
  intro p e s m below meth c A hA B hr hlocks hname hK hN
  refine g_aload_n B dX1_drawnBelow_0 0 rfl ?_
  refine g_aload_n B dX1_drawnBelow_1 0 rfl ?_
  refine g_get (C := RX1) (T := TX1) (N := 4) (ci := 1) B hK hin_X1_drawnBelow_RX1 0 rfl rfl 3 (by decide) (List.mem_of_getElem? (i := 1) rfl) rfl (v := .int (nI sd)) rfl dX1_drawnBelow_2 ?_
  refine g_sipush (v := (421 : Int32)) B dX1_drawnBelow_5 (by decide) ?_
  refine g_imul (v := nI (sd * 421)) B dX1_drawnBelow_8 (pk_mul sd 421) ?_
  refine g_sipush (v := (1663 : Int32)) B dX1_drawnBelow_9 (by decide) ?_
  refine g_iadd (v := nI ((sd * 421) + 1663)) B dX1_drawnBelow_12 (nI_add (sd * 421) 1663) ?_
  refine g_sipush (v := (10000 : Int32)) B dX1_drawnBelow_13 (by decide) ?_
  refine g_irem (v := nI (((sd * 421) + 1663) % 10000)) B dX1_drawnBelow_16 (by decide) (pk_rem (a := (sd * 421) + 1663) (d := 10000) (by omega) (by decide) (by decide)) ?_
  refine g_put (C := RX1) (T := TX1) (N := 4) (ci := 1) B hK hin_X1_drawnBelow_RX1 0 rfl rfl 3 (by decide) tyX1 tyX1_ok nmX1 (List.mem_of_getElem? (i := 1) rfl) rfl rfl (ty := .int) (v := .int (nI (((sd * 421) + 1663) % 10000))) (by decide +kernel) rfl rfl (Nat.le_of_ble_eq_true rfl) (w2 := [(hg, .inr (1, [.ref g0, .ref g1, .ref g2, .int (nI (((sd * 421) + 1663) % 10000))]))]) rfl (fun _ h => h) dX1_drawnBelow_17 ?_
  refine g_iload_n B dX1_drawnBelow_20 1 rfl ?_
  refine g_iconst (v := (1 : Int32)) B dX1_drawnBelow_21 (by decide) ?_
  refine g_ncmp_ge (tgt := 29) B n 1 rfl rfl (by omega) (by omega) dX1_drawnBelow_22 (by decide) (fun c2 => ?_) (fun c2 => ?_)
  rotate_left; · exfalso; omega
  refine g_aload_n B dX1_drawnBelow_29 0 rfl ?_
  refine g_get (C := RX1) (T := TX1) (N := 4) (ci := 1) B hK hin_X1_drawnBelow_RX1 0 rfl rfl 3 (by decide) (List.mem_of_getElem? (i := 1) rfl) rfl (v := .int (nI (((sd * 421) + 1663) % 10000))) rfl dX1_drawnBelow_30 ?_
  refine g_bipush (v := (100 : Int32)) B dX1_drawnBelow_33 (by decide) ?_
  refine g_idiv (v := nI ((((sd * 421) + 1663) % 10000) / 100)) B dX1_drawnBelow_35 (by decide) (pk_div (a := ((sd * 421) + 1663) % 10000) (d := 100) (by omega) (by decide) (by decide)) ?_
  refine g_iload_n B dX1_drawnBelow_36 1 rfl ?_
  refine g_irem (v := nI (((((sd * 421) + 1663) % 10000) / 100) % n)) B dX1_drawnBelow_37 (nI_ne0 (by omega) (by omega)) (pk_rem (a := (((sd * 421) + 1663) % 10000) / 100) (d := n) (by omega) (by omega) (by omega)) ?_
  exact g_iret_w B hr rfl hlocks () (rfl) (trivial) [0] (by decide) rfl dX1_drawnBelow_38

