set_option maxHeartbeats 4000000 in
set_option maxRecDepth 100000 in
theorem b_drawn (l : Launch) {D : va_G} {cI cL cZ cQ : ClassId} (gb : Nat) (gn : Nat) (gv : Nat) (gk : Nat) (gr : Nat) (hb : Nat) (dw : Nat) (sd : Nat) (b : Nat) (nn : Nat) (hsd : sd < 10000) (h1 : 0 < nn) (h2 : nn < 2 ^ 31) : WM l yX6_drawn wsX6_drawn ({ frames := 0, cells := 0, slots := 0, locals := 0 } : Room) D (gTys cI cL cZ cQ) [.ref gb, .int (nI nn)] [(gb, .inr (6, [.ref hb, .ref b, .int (nI dw), .ref gn, .ref gv, .int (nI sd), .ref gk, .ref gr]))] (fun (_ : Unit) => True) (fun (_ : Unit) => some (.int (nI (ks_dr sd / 100 % nn)))) (fun (_ : Unit) => [(gb, .inr (6, [.ref hb, .ref b, .int (nI dw), .ref gn, .ref gv, .int (nI (ks_dr sd)), .ref gk, .ref gr]))]) := by
  refine WM.ofG cX6_drawn 2 (some .int) (by decide +kernel) rfl (Nat.le_of_ble_eq_true rfl) ?_
  intro p e s m below meth c A hA B hr hlocks hname hK hN
  have w1 := ks_dr_lt sd
  refine g_aload_n B dX6_drawn_0 0 rfl ?_
  refine g_sipush (v := (421 : Int32)) B dX6_drawn_1 (by decide) ?_
  refine g_aload_n B dX6_drawn_4 0 rfl ?_
  refine g_get (C := RX6) (T := TX6) (N := 8) (ci := 6) B hK hin_X6_drawn_RX6 0 rfl rfl 5 (by decide) (List.mem_of_getElem? (i := 1) rfl) rfl (v := .int (nI sd)) rfl dX6_drawn_5 ?_
  refine g_imul (v := nI (421 * sd)) B dX6_drawn_8 (pk_mul 421 sd) ?_
  refine g_sipush (v := (1663 : Int32)) B dX6_drawn_9 (by decide) ?_
  refine g_iadd (v := nI ((421 * sd) + 1663)) B dX6_drawn_12 (nI_add (421 * sd) 1663) ?_
  refine g_sipush (v := (10000 : Int32)) B dX6_drawn_13 (by decide) ?_
  refine g_irem (v := nI (((421 * sd) + 1663) % 10000)) B dX6_drawn_16 (by decide) (pk_rem (a := (421 * sd) + 1663) (d := 10000) (by omega) (by decide) (by decide)) ?_
  refine g_eqi (y := nI (ks_dr sd)) (by rw [dr_comm]) ?_
  refine g_put (C := RX6) (T := TX6) (N := 8) (ci := 6) B hK hin_X6_drawn_RX6 0 rfl rfl 5 (by decide) tyX6 tyX6_ok nmX6 (List.mem_of_getElem? (i := 1) rfl) rfl rfl (ty := .int) (v := .int (nI (ks_dr sd))) (by decide +kernel) rfl rfl (Nat.le_of_ble_eq_true rfl) (w2 := [(gb, .inr (6, [.ref hb, .ref b, .int (nI dw), .ref gn, .ref gv, .int (nI (ks_dr sd)), .ref gk, .ref gr]))]) rfl (fun _ h => h) dX6_drawn_17 ?_
  refine g_aload_n B dX6_drawn_20 0 rfl ?_
  refine g_get (C := RX6) (T := TX6) (N := 8) (ci := 6) B hK hin_X6_drawn_RX6 0 rfl rfl 5 (by decide) (List.mem_of_getElem? (i := 1) rfl) rfl (v := .int (nI (ks_dr sd))) rfl dX6_drawn_21 ?_
  refine g_bipush (v := (100 : Int32)) B dX6_drawn_24 (by decide) ?_
  refine g_idiv (v := nI ((ks_dr sd) / 100)) B dX6_drawn_26 (by decide) (pk_div (a := ks_dr sd) (d := 100) (by omega) (by decide) (by decide)) ?_
  refine g_iload_n B dX6_drawn_27 1 rfl ?_
  refine g_irem (v := nI (((ks_dr sd) / 100) % nn)) B dX6_drawn_28 (nI_ne0 (by omega) (by omega)) (pk_rem (a := (ks_dr sd) / 100) (d := nn) (by omega) (by omega) (by omega)) ?_
  exact g_iret_w B hr rfl hlocks () (rfl) (trivial) [0] (by decide) rfl dX6_drawn_29

