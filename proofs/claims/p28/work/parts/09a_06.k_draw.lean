set_option maxHeartbeats 400000 in
set_option maxRecDepth 100000 in
theorem k_draw (l : Launch) {D : va_G} {cI cL cZ cQ : ClassId} (hb : Nat) (hp : Nat) (ht : Nat) (hg : Nat) (ha : Nat) (hq : Nat) (g0 : Nat) (g1 : Nat) (g2 : Nat) (sx : Int32) (b1 : Nat) (h1 : b1 < 10000) : WM l yX5_draw wsX5_draw ({ frames := 0, cells := 0, slots := 0, locals := 0 } : Room) D (gTys cI cL cZ cQ) [.ref hb, .int (nI b1)] [(hb, .inr (5, [.ref hp, .ref ht, .ref hg, .ref ha, .ref hq])), (hg, .inr (1, [.ref g0, .ref g1, .ref g2, .int sx]))] (fun (_ : Unit) => True) (fun (_ : Unit) => some (.int sx)) (fun (_ : Unit) => [(hb, .inr (5, [.ref hp, .ref ht, .ref hg, .ref ha, .ref hq])), (hg, .inr (1, [.ref g0, .ref g1, .ref g2, .int (nI b1)]))]) := by
  refine WM.ofG cX5_draw 3 (some .int) (by decide +kernel) rfl (Nat.le_of_ble_eq_true rfl) ?_
  intro p e s m below meth c A hA B hr hlocks hname hK hN
  refine g_iload_n B dX5_draw_0 1 rfl ?_
  refine g_nif_lt (tgt := 11) B b1 rfl (by omega) dX5_draw_1 (by decide) ?_
  refine g_iload_n B dX5_draw_4 1 rfl ?_
  refine g_sipush (v := (10000 : Int32)) B dX5_draw_5 (by decide) ?_
  refine g_ncmp_lt (tgt := 21) B b1 10000 rfl rfl (by omega) (by omega) dX5_draw_8 (by decide) (fun c2 => ?_) (fun c2 => ?_)
  rotate_left; · exfalso; omega
  refine g_aload_n B dX5_draw_21 0 rfl ?_
  refine g_get (C := RX5) (T := TX5) (N := 5) (ci := 5) B hK hin_X5_draw_RX5 0 rfl rfl 2 (by decide) (List.mem_of_getElem? (i := 3) rfl) rfl (v := .ref hg) rfl dX5_draw_22 ?_
  refine g_getN (C := RX1) (T := TX1) (N := 4) (ci := 1) B hK hin_X5_draw_RX1 1 rfl rfl 3 (by decide) hN 1 rfl rfl (v := .int sx) rfl dX5_draw_25 ?_
  refine g_istore_n (lv' := [(0, .ref hb), (1, .int (nI b1)), (2, .int sx)]) B dX5_draw_28 rfl (by decide) [1, 2, 0] rfl ?_
  refine g_aload_n B dX5_draw_29 0 rfl ?_
  refine g_get (C := RX5) (T := TX5) (N := 5) (ci := 5) B hK hin_X5_draw_RX5 0 rfl rfl 2 (by decide) (List.mem_of_getElem? (i := 3) rfl) rfl (v := .ref hg) rfl dX5_draw_30 ?_
  refine g_iload_n B dX5_draw_33 1 rfl ?_
  refine g_putN (C := RX1) (T := TX1) (N := 4) (ci := 1) B hK hin_X5_draw_RX1 1 rfl rfl 3 (by decide) tyX1 tyX1_ok nmX1 hN 1 rfl rfl rfl (ty := .int) (v := .int (nI b1)) (by decide +kernel) rfl rfl (Nat.le_of_ble_eq_true rfl) (w2 := [(hb, .inr (5, [.ref hp, .ref ht, .ref hg, .ref ha, .ref hq])), (hg, .inr (1, [.ref g0, .ref g1, .ref g2, .int (nI b1)]))]) rfl (fun _ h => h) dX5_draw_34 ?_
  refine g_iload_n B dX5_draw_37 2 rfl ?_
  exact g_iret_w B hr rfl hlocks () (rfl) (trivial) [0, 1] (by decide) rfl dX5_draw_38

