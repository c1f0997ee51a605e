set_option maxHeartbeats 400000 in
set_option maxRecDepth 100000 in
theorem k_changed (l : Launch) {D : va_G} {cI cL cZ cQ : ClassId} (hq : Nat) (r0 : Nat) (r1 : Nat) (r2 : Nat) (Q : Rg) (rc : Nat) (ri : Nat) (ca : Nat) (hr1 : ri < rc) (hr2 : rc ≤ 6) (hq1 : ks_RR Q rc) (hca : ca < 10000) : PM l yX3_changed wsX3_changed ({ frames := 2, cells := 0, slots := 0, locals := 43 } : Room) D (gTys cI cL cZ cQ) [.ref hq, .int (nI ri), .int (nI ca)] [(hq, .inr (3, [.ref r0, .ref r1, .ref r2, .int (nI rc)])), (r0, .inl (cI, 6, .inl (fun i => nI (Q.1 i)))), (r1, .inl (cI, 6, .inl (fun i => nI (Q.2.1 i)))), (r2, .inl (cI, 6, .inl (fun i => nI (Q.2.2 i))))] (fun (_ : Unit) => True) (fun (_ : Unit) => some (.int (nI (ks_cg Q ri ca)))) := by
  refine PM.ofG cX3_changed 6 (some .int) (by decide +kernel) rfl (Nat.le_of_ble_eq_true rfl) ?_
  intro p e s m below meth c B hr hlocks hname hK hN
  have w1 := hq1 ri hr1
  have w2 := ks_dg_lt ca (Q.2.1 ri)
  have w3 := ks_dg_lt ca (Q.2.2 ri)
  have w4 := ks_wv_lt (s := Q.2.1 ri) hca w3
  refine g_aload_n B dX3_changed_0 0 rfl ?_
  refine g_get (C := RX3) (T := TX3) (N := 4) (ci := 3) B hK hin_X3_changed_RX3 0 rfl rfl 1 (by decide) (List.mem_of_getElem? (i := 1) rfl) rfl (v := .ref r1) rfl dX3_changed_1 ?_
  refine g_iload_n B dX3_changed_4 1 rfl ?_
  refine g_iald B hK 2 0 rfl rfl ri rfl (by omega) (by omega) (v := nI (Q.2.1 ri)) rfl dX3_changed_5 ?_
  refine g_istore_n (lv' := [(0, .ref hq), (1, .int (nI ri)), (2, .int (nI ca)), (3, .int (nI (Q.2.1 ri)))]) B dX3_changed_6 rfl (by decide) [1, 2, 3, 0] rfl ?_
  refine g_iload_n B dX3_changed_7 2 rfl ?_
  refine g_iload_n B dX3_changed_8 3 rfl ?_
  refine g_callP (g_runSN B hN (PM.met (k_valueOf l (D := D) (cI := cI) (cL := cL) (cZ := cZ) (cQ := cQ) ca (Q.2.1 ri) (by first | with_reducible assumption | omega | assumption) (by first | with_reducible assumption | omega | assumption))) (gPp.pre (av := [.int (nI ca), .int (nI (Q.2.1 ri))]) (wc := []) hK hN [] rfl (by decide)) gX3_changed_X5_valueOf_n25 (List.mem_of_getElem? (i := 9) rfl) (List.mem_of_getElem? (i := 8) rfl) 12 rfl rfl kd_X5_valueOf ⟨by decide, by decide⟩ (st := []) rfl (Nat.le_of_ble_eq_true rfl) dX3_changed_9 ⟨by decide, by decide⟩) (fun u hu => ?_)
  refine g_istore (lv' := [(0, .ref hq), (1, .int (nI ri)), (2, .int (nI ca)), (3, .int (nI (Q.2.1 ri))), (4, .int (nI (ks_dg ca (Q.2.1 ri))))]) B dX3_changed_12 (by decide) [1, 2, 3, 4, 0] rfl ?_
  refine g_aload_n B dX3_changed_14 0 rfl ?_
  refine g_get (C := RX3) (T := TX3) (N := 4) (ci := 3) B hK hin_X3_changed_RX3 0 rfl rfl 0 (by decide) (List.mem_of_getElem? (i := 2) rfl) rfl (v := .ref r0) rfl dX3_changed_15 ?_
  refine g_iload_n B dX3_changed_18 1 rfl ?_
  refine g_iald B hK 1 0 rfl rfl ri rfl (by omega) (by omega) (v := nI (Q.1 ri)) rfl dX3_changed_19 ?_
  refine g_iconst (v := (1 : Int32)) B dX3_changed_20 (by decide) ?_
  refine g_ncmp_ne (tgt := 39) B (Q.1 ri) 1 rfl rfl (by omega) (by omega) dX3_changed_21 (by decide) (fun c3 => ?_) (fun c3 => ?_)
  · refine g_aload_n B dX3_changed_39 0 rfl ?_
    refine g_get (C := RX3) (T := TX3) (N := 4) (ci := 3) B hK hin_X3_changed_RX3 0 rfl rfl 2 (by decide) (List.mem_of_getElem? (i := 7) rfl) rfl (v := .ref r2) rfl dX3_changed_40 ?_
    refine g_iload_n B dX3_changed_43 1 rfl ?_
    refine g_iald B hK 3 0 rfl rfl ri rfl (by omega) (by omega) (v := nI (Q.2.2 ri)) rfl dX3_changed_44 ?_
    refine g_istore (lv' := [(0, .ref hq), (1, .int (nI ri)), (2, .int (nI ca)), (3, .int (nI (Q.2.1 ri))), (4, .int (nI (ks_dg ca (Q.2.1 ri)))), (5, .int (nI (Q.2.2 ri)))]) B dX3_changed_45 (by decide) [1, 2, 3, 4, 5, 0] rfl ?_
    refine g_iload_n B dX3_changed_47 2 rfl ?_
    refine g_iload_n B dX3_changed_48 3 rfl ?_
    refine g_iload_n B dX3_changed_49 2 rfl ?_
    refine g_iload B dX3_changed_50 5 rfl ?_
    refine g_callP (g_runSN B hN (PM.met (k_valueOf l (D := D) (cI := cI) (cL := cL) (cZ := cZ) (cQ := cQ) ca (Q.2.2 ri) (by first | with_reducible assumption | omega | assumption) (by first | with_reducible assumption | omega | assumption))) (gPp.pre (av := [.int (nI ca), .int (nI (Q.2.2 ri))]) (wc := []) hK hN [] rfl (by decide)) gX3_changed_X5_valueOf_n25 (List.mem_of_getElem? (i := 9) rfl) (List.mem_of_getElem? (i := 8) rfl) 12 rfl rfl kd_X5_valueOf ⟨by decide, by decide⟩ (st := [.int (nI (Q.2.1 ri)), .int (nI ca)]) rfl (Nat.le_of_ble_eq_true rfl) dX3_changed_52 ⟨by decide, by decide⟩) (fun u hu => ?_)
    refine g_callP (g_runSN B hN (PM.met (k_withValue l (D := D) (cI := cI) (cL := cL) (cZ := cZ) (cQ := cQ) ca (Q.2.1 ri) (ks_dg ca (Q.2.2 ri)) (by first | with_reducible assumption | omega | assumption) (by first | with_reducible assumption | omega | assumption))) (gPp.pre (av := [.int (nI ca), .int (nI (Q.2.1 ri)), .int (nI (ks_dg ca (Q.2.2 ri)))]) (wc := []) hK hN [] rfl (by decide)) gX3_changed_X5_withValue_n34 (List.mem_of_getElem? (i := 9) rfl) (List.mem_of_getElem? (i := 11) rfl) 13 rfl rfl kd_X5_withValue ⟨by decide, by decide⟩ (st := []) rfl (Nat.le_of_ble_eq_true rfl) dX3_changed_55 ⟨by decide, by decide⟩) (fun u hu => ?_)
    refine g_iload B dX3_changed_58 5 rfl ?_
    refine g_iload B dX3_changed_60 4 rfl ?_
    refine g_callP (g_runSN B hN (PM.met (k_withValue l (D := D) (cI := cI) (cL := cL) (cZ := cZ) (cQ := cQ) (ks_wv ca (Q.2.1 ri) (ks_dg ca (Q.2.2 ri))) (Q.2.2 ri) (ks_dg ca (Q.2.1 ri)) (by first | with_reducible assumption | omega | assumption) (by first | with_reducible assumption | omega | assumption))) (gPp.pre (av := [.int (nI (ks_wv ca (Q.2.1 ri) (ks_dg ca (Q.2.2 ri)))), .int (nI (Q.2.2 ri)), .int (nI (ks_dg ca (Q.2.1 ri)))]) (wc := []) hK hN [] rfl (by decide)) gX3_changed_X5_withValue_n34 (List.mem_of_getElem? (i := 9) rfl) (List.mem_of_getElem? (i := 11) rfl) 13 rfl rfl kd_X5_withValue ⟨by decide, by decide⟩ (st := []) rfl (Nat.le_of_ble_eq_true rfl) dX3_changed_62 ⟨by decide, by decide⟩) (fun u hu => ?_)
    exact g_iret_p B hr rfl hlocks () (by rw [show ks_cg Q ri ca = _ from if_neg c3]) (trivial) dX3_changed_65
  · refine g_iload_n B dX3_changed_24 2 rfl ?_
    refine g_iload_n B dX3_changed_25 3 rfl ?_
    refine g_iload B dX3_changed_26 4 rfl ?_
    refine g_iconst (v := (1 : Int32)) B dX3_changed_28 (by decide) ?_
    refine g_iadd (v := nI ((ks_dg ca (Q.2.1 ri)) + 1)) B dX3_changed_29 (nI_add (ks_dg ca (Q.2.1 ri)) 1) ?_
    refine g_bipush (v := (9 : Int32)) B dX3_changed_30 (by decide) ?_
    refine g_mmin (v := (if (9 : Int32) < nI ((ks_dg ca (Q.2.1 ri)) + 1) then (9 : Int32) else nI ((ks_dg ca (Q.2.1 ri)) + 1))) B (List.mem_of_getElem? (i := 3) rfl) (List.mem_of_getElem? (i := 4) rfl) (List.mem_of_getElem? (i := 5) rfl) (List.mem_of_getElem? (i := 6) rfl) (by first | decide | exact Nat.le_of_ble_eq_true rfl | ((try dsimp only); omega)) (by first | decide | exact Nat.le_of_ble_eq_true rfl | ((try dsimp only); omega)) (by first | decide | exact Nat.le_of_ble_eq_true rfl | ((try dsimp only); omega)) (by first | decide | exact Nat.le_of_ble_eq_true rfl | ((try dsimp only); omega)) dX3_changed_32 (rfl) ?_
    refine g_eqi (y := nI (if 9 < ks_dg ca (Q.2.1 ri) + 1 then 9 else ks_dg ca (Q.2.1 ri) + 1)) (ks_min9 (ks_dg_lt _ _)) ?_
    have w9 : (if 9 < ks_dg ca (Q.2.1 ri) + 1 then 9 else ks_dg ca (Q.2.1 ri) + 1) < 10 := by split <;> omega
    refine g_callP (g_runSN B hN (PM.met (k_withValue l (D := D) (cI := cI) (cL := cL) (cZ := cZ) (cQ := cQ) ca (Q.2.1 ri) (if 9 < ks_dg ca (Q.2.1 ri) + 1 then 9 else ks_dg ca (Q.2.1 ri) + 1) (by first | with_reducible assumption | omega | assumption) (by first | with_reducible assumption | omega | assumption))) (gPp.pre (av := [.int (nI ca), .int (nI (Q.2.1 ri)), .int (nI (if 9 < ks_dg ca (Q.2.1 ri) + 1 then 9 else ks_dg ca (Q.2.1 ri) + 1))]) (wc := []) hK hN [] rfl (by decide)) gX3_changed_X5_withValue_n34 (List.mem_of_getElem? (i := 9) rfl) (List.mem_of_getElem? (i := 11) rfl) 13 rfl rfl kd_X5_withValue ⟨by decide, by decide⟩ (st := []) rfl (Nat.le_of_ble_eq_true rfl) dX3_changed_35 ⟨by decide, by decide⟩) (fun u hu => ?_)
    exact g_iret_p B hr rfl hlocks () (by rw [show ks_cg Q ri ca = _ from if_pos c3]) (trivial) dX3_changed_38

