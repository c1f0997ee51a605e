set_option maxHeartbeats 4000000 in
set_option maxRecDepth 100000 in
theorem k_mutantOf (l : Launch) {D : va_G} {cI cL cZ cQ : ClassId} (hg : Nat) (g0 : Nat) (g1 : Nat) (g2 : Nat) (sd : Nat) (t : Nat) (hsd : sd < 10000) (ht1 : t < 10000) : WM l yX1_mutantOf wsX1_mutantOf ({ frames := 2, cells := 0, slots := 0, locals := 43 } : Room) D (gTys cI cL cZ cQ) [.ref hg, .int (nI t)] [(hg, .inr (1, [.ref g0, .ref g1, .ref g2, .int (nI sd)]))] (fun (_ : Unit) => True) (fun (_ : Unit) => some (.int (nI (ks_mt sd t)))) (fun (_ : Unit) => [(hg, .inr (1, [.ref g0, .ref g1, .ref g2, .int (nI (ks_dr (ks_dr sd)))]))]) := by
  refine WM.ofG cX1_mutantOf 4 (some .int) (by decide +kernel) rfl (Nat.le_of_ble_eq_true rfl) ?_
  intro p e s m below meth c A hA B hr hlocks hname hK hN
  have w1 := ks_dr_lt sd
  have w2 := ks_dr_lt (ks_dr sd)
  have w3 := ks_dg_lt t (ks_dr sd / 100 % 4)
  refine g_aload_n B dX1_mutantOf_0 0 rfl ?_
  refine g_iconst (v := (4 : Int32)) B dX1_mutantOf_1 (by decide) ?_
  refine g_callW (w2 := (fun (_ : Unit) => [(hg, .inr (1, [.ref g0, .ref g1, .ref g2, .int (nI (ks_dr sd))]))])) (g_runV (q0 := 0) (ci := 1) B hK rfl rfl (k_drawnBelow l (D := D) (cI := cI) (cL := cL) (cZ := cZ) (cQ := cQ) hg g0 g1 g2 sd 4 (by first | with_reducible assumption | omega | assumption) (by first | with_reducible assumption | omega | assumption) (by first | with_reducible assumption | omega | assumption)) (gPw.pre (av := [.ref hg, .int (4 : Int32)]) (wc := [(hg, .inr (1, [.ref g0, .ref g1, .ref g2, .int (nI sd)]))]) hK hN [0] rfl (by decide)) gX1_mutantOf_X1_drawnBelow rfl rfl kd_X1_drawnBelow ⟨by decide, by decide⟩ (st := []) rfl (Nat.le_of_ble_eq_true rfl) dX1_mutantOf_2 ⟨by decide, by decide⟩) hA (fun _ h => h) [0] [] (wr := []) rfl rfl (by decide) (by decide) [0] (by decide) (fun _ => rfl) (fun u hu => ?_)
  refine g_istore_n (lv' := [(0, .ref hg), (1, .int (nI t)), (2, .int (nI (ks_dr sd / 100 % 4)))]) B dX1_mutantOf_5 rfl (by decide) [1, 2, 0] rfl ?_
  refine g_iload_n B dX1_mutantOf_6 1 rfl ?_
  refine g_iload_n B dX1_mutantOf_7 2 rfl ?_
  refine g_callP (g_runSN B hN (PM.met (k_valueOf l (D := D) (cI := cI) (cL := cL) (cZ := cZ) (cQ := cQ) t (ks_dr sd / 100 % 4) (by first | with_reducible assumption | omega | assumption) (by first | with_reducible assumption | omega | assumption))) (gPp.pre (av := [.int (nI t), .int (nI (ks_dr sd / 100 % 4))]) (wc := []) hK hN [] rfl (by decide)) gX1_mutantOf_X5_valueOf_n38 (List.mem_of_getElem? (i := 8) rfl) (List.mem_of_getElem? (i := 7) rfl) 6 rfl rfl kd_X5_valueOf ⟨by decide, by decide⟩ (st := []) rfl (Nat.le_of_ble_eq_true rfl) dX1_mutantOf_8 ⟨by decide, by decide⟩) (fun u hu => ?_)
  refine g_iconst (v := (1 : Int32)) B dX1_mutantOf_11 (by decide) ?_
  refine g_iadd (v := nI ((ks_dg t (ks_dr sd / 100 % 4)) + 1)) B dX1_mutantOf_12 (nI_add (ks_dg t (ks_dr sd / 100 % 4)) 1) ?_
  refine g_aload_n B dX1_mutantOf_13 0 rfl ?_
  refine g_bipush (v := (9 : Int32)) B dX1_mutantOf_14 (by decide) ?_
  refine g_callW (w2 := (fun (_ : Unit) => [(hg, .inr (1, [.ref g0, .ref g1, .ref g2, .int (nI (ks_dr (ks_dr sd)))]))])) (g_runV (q0 := 0) (ci := 1) B hK rfl rfl (k_drawnBelow l (D := D) (cI := cI) (cL := cL) (cZ := cZ) (cQ := cQ) hg g0 g1 g2 (ks_dr sd) 9 (by first | with_reducible assumption | omega | assumption) (by first | with_reducible assumption | omega | assumption) (by first | with_reducible assumption | omega | assumption)) (gPw.pre (av := [.ref hg, .int (9 : Int32)]) (wc := [(hg, .inr (1, [.ref g0, .ref g1, .ref g2, .int (nI (ks_dr sd))]))]) hK hN [0] rfl (by decide)) gX1_mutantOf_X1_drawnBelow rfl rfl kd_X1_drawnBelow ⟨by decide, by decide⟩ (st := [.int (nI ((ks_dg t (ks_dr sd / 100 % 4)) + 1))]) rfl (Nat.le_of_ble_eq_true rfl) dX1_mutantOf_16 ⟨by decide, by decide⟩) hA (fun _ h => h) [0] [] (wr := []) rfl rfl (by decide) (by decide) [0] (by decide) (fun _ => rfl) (fun u hu => ?_)
  refine g_iadd (v := nI (((ks_dg t (ks_dr sd / 100 % 4)) + 1) + (ks_dr (ks_dr sd) / 100 % 9))) B dX1_mutantOf_19 (nI_add ((ks_dg t (ks_dr sd / 100 % 4)) + 1) (ks_dr (ks_dr sd) / 100 % 9)) ?_
  refine g_istore_n (lv' := [(0, .ref hg), (1, .int (nI t)), (2, .int (nI (ks_dr sd / 100 % 4))), (3, .int (nI (((ks_dg t (ks_dr sd / 100 % 4)) + 1) + (ks_dr (ks_dr sd) / 100 % 9))))]) B dX1_mutantOf_20 rfl (by decide) [1, 2, 3, 0] rfl ?_
  refine g_iload_n B dX1_mutantOf_21 1 rfl ?_
  refine g_iload_n B dX1_mutantOf_22 2 rfl ?_
  refine g_iload_n B dX1_mutantOf_23 3 rfl ?_
  refine g_bipush (v := (10 : Int32)) B dX1_mutantOf_24 (by decide) ?_
  refine g_ncmp_lt (tgt := 36) B (((ks_dg t (ks_dr sd / 100 % 4)) + 1) + (ks_dr (ks_dr sd) / 100 % 9)) 10 rfl rfl (by omega) (by omega) dX1_mutantOf_26 (by decide) (fun c5 => ?_) (fun c5 => ?_)
  · refine g_iload_n B dX1_mutantOf_36 3 rfl ?_
    refine g_callP (g_runSN B hN (PM.met (k_withValue l (D := D) (cI := cI) (cL := cL) (cZ := cZ) (cQ := cQ) t (ks_dr sd / 100 % 4) (((ks_dg t (ks_dr sd / 100 % 4)) + 1) + (ks_dr (ks_dr sd) / 100 % 9)) (by first | with_reducible assumption | omega | assumption) (by first | with_reducible assumption | omega | assumption))) (gPp.pre (av := [.int (nI t), .int (nI (ks_dr sd / 100 % 4)), .int (nI (((ks_dg t (ks_dr sd / 100 % 4)) + 1) + (ks_dr (ks_dr sd) / 100 % 9)))]) (wc := []) hK hN [] rfl (by decide)) gX1_mutantOf_X5_withValue_n42 (List.mem_of_getElem? (i := 8) rfl) (List.mem_of_getElem? (i := 10) rfl) 7 rfl rfl kd_X5_withValue ⟨by decide, by decide⟩ (st := []) rfl (Nat.le_of_ble_eq_true rfl) dX1_mutantOf_37 ⟨by decide, by decide⟩) (fun u hu => ?_)
    refine g_eqi (y := nI (ks_mt sd t)) (congrArg nI (ks_mt_eq (by omega))) ?_
    exact g_iret_w B hr rfl hlocks () (rfl) (trivial) [0] (by decide) rfl dX1_mutantOf_40
  · refine g_iload_n B dX1_mutantOf_29 3 rfl ?_
    refine g_bipush (v := (10 : Int32)) B dX1_mutantOf_30 (by decide) ?_
    refine g_isub (v := nI ((((ks_dg t (ks_dr sd / 100 % 4)) + 1) + (ks_dr (ks_dr sd) / 100 % 9)) - 10)) B dX1_mutantOf_32 (pk_sub (a := ((ks_dg t (ks_dr sd / 100 % 4)) + 1) + (ks_dr (ks_dr sd) / 100 % 9)) (b := 10) (by omega)) ?_
    refine g_goto (tgt := 37) B dX1_mutantOf_33 (by decide) ?_
    refine g_callP (g_runSN B hN (PM.met (k_withValue l (D := D) (cI := cI) (cL := cL) (cZ := cZ) (cQ := cQ) t (ks_dr sd / 100 % 4) ((((ks_dg t (ks_dr sd / 100 % 4)) + 1) + (ks_dr (ks_dr sd) / 100 % 9)) - 10) (by first | with_reducible assumption | omega | assumption) (by first | with_reducible assumption | omega | assumption))) (gPp.pre (av := [.int (nI t), .int (nI (ks_dr sd / 100 % 4)), .int (nI ((((ks_dg t (ks_dr sd / 100 % 4)) + 1) + (ks_dr (ks_dr sd) / 100 % 9)) - 10))]) (wc := []) hK hN [] rfl (by decide)) gX1_mutantOf_X5_withValue_n42 (List.mem_of_getElem? (i := 8) rfl) (List.mem_of_getElem? (i := 10) rfl) 7 rfl rfl kd_X5_withValue ⟨by decide, by decide⟩ (st := []) rfl (Nat.le_of_ble_eq_true rfl) dX1_mutantOf_37 ⟨by decide, by decide⟩) (fun u hu => ?_)
    refine g_eqi (y := nI (ks_mt sd t)) (congrArg nI (ks_mt_eq (by omega))) ?_
    exact g_iret_w B hr rfl hlocks () (rfl) (trivial) [0] (by decide) rfl dX1_mutantOf_40

