set_option maxHeartbeats 400000 in
set_option maxRecDepth 100000 in
theorem k_take (l : Launch) {D : va_G} {cI cL cZ cQ : ClassId} (ha : Nat) (a0 : Nat) (a1 : Nat) (a2 : Nat) (a3 : Nat) (n : Nat) (S : Int64) (T : Int64) (hn4 : n < 40) : WM l yX0_take wsX0_take ({ frames := 0, cells := 0, slots := 0, locals := 0 } : Room) D (gTys cI cL cZ cQ) [.ref ha, .long T] [(ha, .inr (0, [.ref a0, .ref a1, .ref a2, .ref a3, .int (nI n), .long S]))] (fun (_ : Unit) => True) (fun (_ : Unit) => none) (fun (_ : Unit) => [(ha, .inr (0, [.ref a0, .ref a1, .ref a2, .ref a3, .int (nI (ks_tn T S n)), .long T]))]) := by
  refine WM.ofG cX0_take 3 none (by decide +kernel) rfl (Nat.le_of_ble_eq_true rfl) ?_
  intro p e s m below meth c A hA B hr hlocks hname hK hN
  refine g_lload_n B dX0_take_0 1 rfl ?_
  refine g_aload_n B dX0_take_1 0 rfl ?_
  refine g_get (C := RX0) (T := TX0) (N := 6) (ci := 0) B hK hin_X0_take_RX0 0 rfl rfl 5 (by decide) (List.mem_of_getElem? (i := 1) rfl) rfl (v := .long S) rfl dX0_take_2 ?_
  refine g_lcmp (v := (lg_cmp T S)) B dX0_take_5 rfl ?_
  refine g_lif_eq (tgt := 33) B dX0_take_6 (by decide) (fun c1 => ?_) (fun c1 => ?_)
  · refine g_eqw (w2 := [(ha, .inr (0, [.ref a0, .ref a1, .ref a2, .ref a3, .int (nI (ks_tn T S n)), .long T]))]) (by rw [show ks_tn T S n = n from if_pos c1, c1]) ?_
    exact g_vret_w B hr hlocks () (rfl) (trivial) [0] (by decide) rfl dX0_take_33
  · refine g_aload_n B dX0_take_9 0 rfl ?_
    refine g_get (C := RX0) (T := TX0) (N := 6) (ci := 0) B hK hin_X0_take_RX0 0 rfl rfl 4 (by decide) (List.mem_of_getElem? (i := 2) rfl) rfl (v := .int (nI n)) rfl dX0_take_10 ?_
    refine g_bipush (v := (40 : Int32)) B dX0_take_13 (by decide) ?_
    refine g_ncmp_ge (tgt := 33) B n 40 rfl rfl (by omega) (by omega) dX0_take_15 (by decide) (fun c3 => ?_) (fun c3 => ?_)
    · exfalso; omega
    refine g_aload_n B dX0_take_18 0 rfl ?_
    refine g_lload_n B dX0_take_19 1 rfl ?_
    refine g_put (C := RX0) (T := TX0) (N := 6) (ci := 0) B hK hin_X0_take_RX0 0 rfl rfl 5 (by decide) tyX0 tyX0_ok nmX0 (List.mem_of_getElem? (i := 1) rfl) rfl rfl (ty := .long) (v := .long T) (by decide +kernel) rfl rfl (Nat.le_of_ble_eq_true rfl) (w2 := [(ha, .inr (0, [.ref a0, .ref a1, .ref a2, .ref a3, .int (nI n), .long T]))]) rfl (fun _ h => h) dX0_take_20 ?_
    refine g_aload_n B dX0_take_23 0 rfl ?_
    refine g_dup B dX0_take_24 rfl ?_
    refine g_get (C := RX0) (T := TX0) (N := 6) (ci := 0) B hK hin_X0_take_RX0 0 rfl rfl 4 (by decide) (List.mem_of_getElem? (i := 2) rfl) rfl (v := .int (nI n)) rfl dX0_take_25 ?_
    refine g_iconst (v := (1 : Int32)) B dX0_take_28 (by decide) ?_
    refine g_iadd (v := nI (n + 1)) B dX0_take_29 (nI_add n 1) ?_
    refine g_put (C := RX0) (T := TX0) (N := 6) (ci := 0) B hK hin_X0_take_RX0 0 rfl rfl 4 (by decide) tyX0 tyX0_ok nmX0 (List.mem_of_getElem? (i := 2) rfl) rfl rfl (ty := .int) (v := .int (nI (n + 1))) (by decide +kernel) rfl rfl (Nat.le_of_ble_eq_true rfl) (w2 := [(ha, .inr (0, [.ref a0, .ref a1, .ref a2, .ref a3, .int (nI (n + 1)), .long T]))]) rfl (fun _ h => h) dX0_take_30 ?_
    refine g_eqw (w2 := [(ha, .inr (0, [.ref a0, .ref a1, .ref a2, .ref a3, .int (nI (ks_tn T S n)), .long T]))]) (by rw [show ks_tn T S n = n + 1 from if_neg c1]) ?_
    exact g_vret_w B hr hlocks () (rfl) (trivial) [0] (by decide) rfl dX0_take_33

