set_option maxHeartbeats 400000 in
set_option maxRecDepth 100000 in
theorem b_any (l : Launch) {D : va_G} {cI cL cZ cQ : ClassId} {b L : Nat} {xs : Nat → Int32} (gb : Nat) (gn : Nat) (gv : Nat) (gk : Nat) (gr : Nat) (hb : Nat) (dw : Nat) (sd : Nat) (nn : Nat) (hL : L ≤ 260) (hd : dw < 2 ^ 20) (h1 : 0 < nn) (h2 : nn < 2 ^ 31) : EM l yX6_any wsX6_any ({ frames := 1, cells := 0, slots := 0, locals := 21 } : Room) D (gTys cI cL cZ cQ) [.ref gb, .int (nI nn)] [(gb, .inr (6, [.ref hb, .ref b, .int (nI dw), .ref gn, .ref gv, .int (nI sd), .ref gk, .ref gr]))] b L xs (fun (r : Nat) => r < nn) (fun (r : Nat) => some (.int (nI r))) (fun (r : Nat) => [(gb, .inr (6, [.ref hb, .ref b, .int (nI (dw + 1)), .ref gn, .ref gv, .int (nI sd), .ref gk, .ref gr]))]) := by
  refine EM.ofG cX6_any 3 (some .int) (by decide +kernel) rfl (Nat.le_of_ble_eq_true rfl) ?_
  intro p e s m below meth c A hA hX hbl hbA B hr hlocks hname hK hN
  refine g_aload_n B dX6_any_0 0 rfl ?_
  refine g_get (C := RX6) (T := TX6) (N := 8) (ci := 6) B hK hin_X6_any_RX6 0 rfl rfl 1 (by decide) (List.mem_of_getElem? (i := 1) rfl) rfl (v := .ref b) rfl dX6_any_1 ?_
  refine g_aload_n B dX6_any_4 0 rfl ?_
  refine g_get (C := RX6) (T := TX6) (N := 8) (ci := 6) B hK hin_X6_any_RX6 0 rfl rfl 2 (by decide) (List.mem_of_getElem? (i := 2) rfl) rfl (v := .int (nI dw)) rfl dX6_any_5 ?_
  refine g_bipush (v := (24 : Int32)) B dX6_any_8 (by decide) ?_
  refine g_irem (v := nI (dw % 24)) B dX6_any_10 (by decide) (pk_rem (a := dw) (d := 24) (by omega) (by decide) (by decide)) ?_
  refine g_callW (w2 := (fun (r_1 : Int32) => [(gb, .inr (6, [.ref hb, .ref b, .int (nI dw), .ref gn, .ref gv, .int (nI sd), .ref gk, .ref gr]))])) (g_runSN B hN (b_cell l (D := D) (cI := cI) (cL := cL) (cZ := cZ) (cQ := cQ) (dw % 24) (by first | with_reducible assumption | omega | assumption) (by first | with_reducible assumption | omega | assumption)) (gPe.pre (av := [.ref b, .int (nI (dw % 24))]) (wc := []) hX hbl hbA hA hK hN [] rfl (by decide)) gX6_any_L_cell_n41 (List.mem_of_getElem? (i := 4) rfl) (List.mem_of_getElem? (i := 3) rfl) 16 rfl rfl kd_L_cell ⟨by decide, by decide⟩ (st := []) rfl (Nat.le_of_ble_eq_true rfl) dX6_any_11 ⟨by decide, by decide⟩) hA (fun _ h => h) [] [0] (wr := [(gb, .inr (6, [.ref hb, .ref b, .int (nI dw), .ref gn, .ref gv, .int (nI sd), .ref gk, .ref gr]))]) rfl rfl (by decide) (by decide) [0] (by decide) (fun _ => rfl) (fun u hu => ?_)
  obtain ⟨r_1, e9⟩ : ∃ z, z = u := ⟨_, rfl⟩; subst e9
  try dsimp only at hu ⊢
  refine g_aload_n B dX6_any_14 0 rfl ?_
  refine g_get (C := RX6) (T := TX6) (N := 8) (ci := 6) B hK hin_X6_any_RX6 0 rfl rfl 2 (by decide) (List.mem_of_getElem? (i := 2) rfl) rfl (v := .int (nI dw)) rfl dX6_any_15 ?_
  refine g_bipush (v := (24 : Int32)) B dX6_any_18 (by decide) ?_
  refine g_idiv (v := nI (dw / 24)) B dX6_any_20 (by decide) (pk_div (a := dw) (d := 24) (by omega) (by decide) (by decide)) ?_
  refine g_bipush (v := (8 : Int32)) B dX6_any_21 (by decide) ?_
  refine g_irem (v := nI ((dw / 24) % 8)) B dX6_any_23 (by decide) (pk_rem (a := dw / 24) (d := 8) (by omega) (by decide) (by decide)) ?_
  refine g_ishr (v := (r_1 >>> (nI ((dw / 24) % 8) &&& 31))) B dX6_any_24 (rfl) ?_
  refine g_sipush (v := (191 : Int32)) B dX6_any_25 (by decide) ?_
  refine g_aload_n B dX6_any_28 0 rfl ?_
  refine g_get (C := RX6) (T := TX6) (N := 8) (ci := 6) B hK hin_X6_any_RX6 0 rfl rfl 2 (by decide) (List.mem_of_getElem? (i := 2) rfl) rfl (v := .int (nI dw)) rfl dX6_any_29 ?_
  refine g_imul (v := nI (191 * dw)) B dX6_any_32 (pk_mul 191 dw) ?_
  refine g_iadd (v := ((r_1 >>> (nI ((dw / 24) % 8) &&& 31)) + nI (191 * dw))) B dX6_any_33 (rfl) ?_
  refine g_iload_n B dX6_any_34 1 rfl ?_
  refine g_callP (g_runSN B hN (PM.met (b_below l (D := D) (cI := cI) (cL := cL) (cZ := cZ) (cQ := cQ) ((r_1 >>> (nI ((dw / 24) % 8) &&& 31)) + nI (191 * dw)) nn (by first | with_reducible assumption | omega | assumption) (by first | with_reducible assumption | omega | assumption))) (gPp.pre (av := [.int ((r_1 >>> (nI ((dw / 24) % 8) &&& 31)) + nI (191 * dw)), .int (nI nn)]) (wc := []) hK hN [] rfl (by decide)) gX6_any_L_below_n47 (List.mem_of_getElem? (i := 4) rfl) (List.mem_of_getElem? (i := 7) rfl) 17 rfl rfl kd_L_below ⟨by decide, by decide⟩ (st := []) rfl (Nat.le_of_ble_eq_true rfl) dX6_any_35 ⟨by decide, by decide⟩) (fun u hu => ?_)
  obtain ⟨r_2, e9⟩ : ∃ z, z = u := ⟨_, rfl⟩; subst e9
  try dsimp only at hu ⊢
  have hu2 := hu
  refine g_istore_n (lv' := [(0, .ref gb), (1, .int (nI nn)), (2, .int (nI r_2))]) B dX6_any_38 rfl (by decide) [1, 2, 0] rfl ?_
  refine g_aload_n B dX6_any_39 0 rfl ?_
  refine g_dup B dX6_any_40 rfl ?_
  refine g_get (C := RX6) (T := TX6) (N := 8) (ci := 6) B hK hin_X6_any_RX6 0 rfl rfl 2 (by decide) (List.mem_of_getElem? (i := 2) rfl) rfl (v := .int (nI dw)) rfl dX6_any_41 ?_
  refine g_iconst (v := (1 : Int32)) B dX6_any_44 (by decide) ?_
  refine g_iadd (v := nI (dw + 1)) B dX6_any_45 (nI_add dw 1) ?_
  refine g_put (C := RX6) (T := TX6) (N := 8) (ci := 6) B hK hin_X6_any_RX6 0 rfl rfl 2 (by decide) tyX6 tyX6_ok nmX6 (List.mem_of_getElem? (i := 2) rfl) rfl rfl (ty := .int) (v := .int (nI (dw + 1))) (by decide +kernel) rfl rfl (Nat.le_of_ble_eq_true rfl) (w2 := [(gb, .inr (6, [.ref hb, .ref b, .int (nI (dw + 1)), .ref gn, .ref gv, .int (nI sd), .ref gk, .ref gr]))]) rfl (fun _ h => h) dX6_any_46 ?_
  refine g_iload_n B dX6_any_49 2 rfl ?_
  exact g_iret_w B hr rfl hlocks r_2 (rfl) (by assumption) [0] (by decide) rfl dX6_any_50

