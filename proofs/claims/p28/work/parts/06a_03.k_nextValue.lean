set_option maxHeartbeats 4000000 in
set_option maxRecDepth 100000 in
theorem k_nextValue (l : Launch) {D : va_G} {cI cL cZ cQ : ClassId} (hg : Nat) (g0 : Nat) (g1 : Nat) (g2 : Nat) (W : Wg) (sd : Nat) (sl : Nat) (hsd : sd < 10000) (hw : ks_WW W) (h1 : sl < 4) : WM l yX1_nextValue wsX1_nextValue ({ frames := 1, cells := 0, slots := 0, locals := 21 } : Room) D (gTys cI cL cZ cQ) [.ref hg, .int (nI sl)] [(hg, .inr (1, [.ref g0, .ref g1, .ref g2, .int (nI sd)])), (g0, .inl (cI, 4, .inl (fun i => nI (W.1 i)))), (g1, .inl (cI, 4, .inl (fun i => nI (W.2.1 i)))), (g2, .inl (cI, 4, .inl (fun i => nI (W.2.2 i))))] (fun (q : Nat × Nat) => q.1 = (ks_nv W sd sl).1 ∧ q.2 = (ks_nv W sd sl).2) (fun (q : Nat × Nat) => some (.int (nI q.1))) (fun (q : Nat × Nat) => [(hg, .inr (1, [.ref g0, .ref g1, .ref g2, .int (nI q.2)])), (g0, .inl (cI, 4, .inl (fun i => nI (W.1 i)))), (g1, .inl (cI, 4, .inl (fun i => nI (W.2.1 i)))), (g2, .inl (cI, 4, .inl (fun i => nI (W.2.2 i))))]) := by
  refine WM.ofG cX1_nextValue 4 (some .int) (by decide +kernel) rfl (Nat.le_of_ble_eq_true rfl) ?_
  intro p e s m below meth c A hA B hr hlocks hname hK hN
  have w0 := hw sl h1
  have w1 : ks_ws W sl = W.1 sl + W.2.1 sl + W.2.2 sl := rfl
  have w2 := ks_dr_lt sd
  refine g_aload_n B dX1_nextValue_0 0 rfl ?_
  refine g_iload_n B dX1_nextValue_1 1 rfl ?_
  refine g_callP (g_runV (q0 := 0) (ci := 1) B hK rfl rfl (PM.met (k_weightOf l (D := D) (cI := cI) (cL := cL) (cZ := cZ) (cQ := cQ) hg g0 g1 g2 W (nI sd) sl (by first | assumption | omega))) (gPp.pre (av := [.ref hg, .int (nI sl)]) (wc := [(hg, .inr (1, [.ref g0, .ref g1, .ref g2, .int (nI sd)])), (g0, .inl (cI, 4, .inl (fun i => nI (W.1 i)))), (g1, .inl (cI, 4, .inl (fun i => nI (W.2.1 i)))), (g2, .inl (cI, 4, .inl (fun i => nI (W.2.2 i))))]) hK hN [0, 1, 2, 3] rfl (by decide)) gX1_nextValue_X1_weightOf rfl rfl kd_X1_weightOf ⟨by decide, by decide⟩ (st := []) rfl (Nat.le_of_ble_eq_true rfl) dX1_nextValue_2 ⟨by decide, by decide⟩) (fun u hu => ?_)
  refine g_istore_n (lv' := [(0, .ref hg), (1, .int (nI sl)), (2, .int (nI (ks_ws W sl)))]) B dX1_nextValue_5 rfl (by decide) [1, 2, 0] rfl ?_
  refine g_iload_n B dX1_nextValue_6 2 rfl ?_
  refine g_nif_ne (tgt := 12) B (ks_ws W sl) rfl (by omega) dX1_nextValue_7 (by decide) (fun c2 => ?_) (fun c2 => ?_)
  · have w3 := Nat.mod_lt (ks_dr sd / 100) (show 0 < ks_ws W sl by omega)
    refine g_aload_n B dX1_nextValue_12 0 rfl ?_
    refine g_iload_n B dX1_nextValue_13 2 rfl ?_
    refine g_callW (w2 := (fun (_ : Unit) => [(hg, .inr (1, [.ref g0, .ref g1, .ref g2, .int (nI (ks_dr sd))])), (g0, .inl (cI, 4, .inl (fun i => nI (W.1 i)))), (g1, .inl (cI, 4, .inl (fun i => nI (W.2.1 i)))), (g2, .inl (cI, 4, .inl (fun i => nI (W.2.2 i))))])) (g_runV (q0 := 0) (ci := 1) B hK rfl rfl (k_drawnBelow l (D := D) (cI := cI) (cL := cL) (cZ := cZ) (cQ := cQ) hg g0 g1 g2 sd (ks_ws W sl) (by first | assumption | omega) (by first | assumption | omega) (by first | assumption | omega)) (gPw.pre (av := [.ref hg, .int (nI (ks_ws W sl))]) (wc := [(hg, .inr (1, [.ref g0, .ref g1, .ref g2, .int (nI sd)]))]) hK hN [0] rfl (by decide)) gX1_nextValue_X1_drawnBelow rfl rfl kd_X1_drawnBelow ⟨by decide, by decide⟩ (st := []) rfl (Nat.le_of_ble_eq_true rfl) dX1_nextValue_14 ⟨by decide, by decide⟩) hA (fun _ h => h) [0] [1, 2, 3] (wr := [(g0, .inl (cI, 4, .inl (fun i => nI (W.1 i)))), (g1, .inl (cI, 4, .inl (fun i => nI (W.2.1 i)))), (g2, .inl (cI, 4, .inl (fun i => nI (W.2.2 i))))]) rfl rfl (by decide) (by decide) [3, 0, 1, 2] (by decide) (fun _ => rfl) (fun u hu => ?_)
    refine g_istore_n (lv' := [(0, .ref hg), (1, .int (nI sl)), (2, .int (nI (ks_ws W sl))), (3, .int (nI (ks_dr sd / 100 % (ks_ws W sl))))]) B dX1_nextValue_17 rfl (by decide) [1, 2, 3, 0] rfl ?_
    refine g_iload_n B dX1_nextValue_18 3 rfl ?_
    refine g_aload_n B dX1_nextValue_19 0 rfl ?_
    refine g_get (C := RX1) (T := TX1) (N := 4) (ci := 1) B hK hin_X1_nextValue_RX1 0 rfl rfl 0 (by decide) (List.mem_of_getElem? (i := 1) rfl) rfl (v := .ref g0) rfl dX1_nextValue_20 ?_
    refine g_iload_n B dX1_nextValue_23 1 rfl ?_
    refine g_iald B hK 1 0 rfl rfl sl rfl (by omega) (by omega) (v := nI (W.1 sl)) rfl dX1_nextValue_24 ?_
    refine g_ncmp_ge (tgt := 34) B (ks_dr sd / 100 % (ks_ws W sl)) (W.1 sl) rfl rfl (by omega) (by omega) dX1_nextValue_25 (by decide) (fun c4 => ?_) (fun c4 => ?_)
    · refine g_iload_n B dX1_nextValue_34 3 rfl ?_
      refine g_aload_n B dX1_nextValue_35 0 rfl ?_
      refine g_get (C := RX1) (T := TX1) (N := 4) (ci := 1) B hK hin_X1_nextValue_RX1 0 rfl rfl 0 (by decide) (List.mem_of_getElem? (i := 1) rfl) rfl (v := .ref g0) rfl dX1_nextValue_36 ?_
      refine g_iload_n B dX1_nextValue_39 1 rfl ?_
      refine g_iald B hK 1 0 rfl rfl sl rfl (by omega) (by omega) (v := nI (W.1 sl)) rfl dX1_nextValue_40 ?_
      refine g_aload_n B dX1_nextValue_41 0 rfl ?_
      refine g_get (C := RX1) (T := TX1) (N := 4) (ci := 1) B hK hin_X1_nextValue_RX1 0 rfl rfl 1 (by decide) (List.mem_of_getElem? (i := 2) rfl) rfl (v := .ref g1) rfl dX1_nextValue_42 ?_
      refine g_iload_n B dX1_nextValue_45 1 rfl ?_
      refine g_iald B hK 2 0 rfl rfl sl rfl (by omega) (by omega) (v := nI (W.2.1 sl)) rfl dX1_nextValue_46 ?_
      refine g_iadd (v := nI ((W.1 sl) + (W.2.1 sl))) B dX1_nextValue_47 (nI_add (W.1 sl) (W.2.1 sl)) ?_
      refine g_ncmp_ge (tgt := 59) B (ks_dr sd / 100 % (ks_ws W sl)) ((W.1 sl) + (W.2.1 sl)) rfl rfl (by omega) (by omega) dX1_nextValue_48 (by decide) (fun c5 => ?_) (fun c5 => ?_)
      · refine g_bipush (v := (7 : Int32)) B dX1_nextValue_59 (by decide) ?_
        refine g_aload_n B dX1_nextValue_61 0 rfl ?_
        refine g_iconst (v := (3 : Int32)) B dX1_nextValue_62 (by decide) ?_
        refine g_callW (w2 := (fun (_ : Unit) => [(hg, .inr (1, [.ref g0, .ref g1, .ref g2, .int (nI (ks_dr (ks_dr sd)))])), (g0, .inl (cI, 4, .inl (fun i => nI (W.1 i)))), (g1, .inl (cI, 4, .inl (fun i => nI (W.2.1 i)))), (g2, .inl (cI, 4, .inl (fun i => nI (W.2.2 i))))])) (g_runV (q0 := 0) (ci := 1) B hK rfl rfl (k_drawnBelow l (D := D) (cI := cI) (cL := cL) (cZ := cZ) (cQ := cQ) hg g0 g1 g2 (ks_dr sd) 3 (by first | assumption | omega) (by first | assumption | omega) (by first | assumption | omega)) (gPw.pre (av := [.ref hg, .int (3 : Int32)]) (wc := [(hg, .inr (1, [.ref g0, .ref g1, .ref g2, .int (nI (ks_dr sd))]))]) hK hN [0] rfl (by decide)) gX1_nextValue_X1_drawnBelow rfl rfl kd_X1_drawnBelow ⟨by decide, by decide⟩ (st := [.int (7 : Int32)]) rfl (Nat.le_of_ble_eq_true rfl) dX1_nextValue_63 ⟨by decide, by decide⟩) hA (fun _ h => h) [0] [1, 2, 3] (wr := [(g0, .inl (cI, 4, .inl (fun i => nI (W.1 i)))), (g1, .inl (cI, 4, .inl (fun i => nI (W.2.1 i)))), (g2, .inl (cI, 4, .inl (fun i => nI (W.2.2 i))))]) rfl rfl (by decide) (by decide) [3, 0, 1, 2] (by decide) (fun _ => rfl) (fun u hu => ?_)
        refine g_iadd (v := nI (7 + (ks_dr (ks_dr sd) / 100 % 3))) B dX1_nextValue_66 (nI_add 7 (ks_dr (ks_dr sd) / 100 % 3)) ?_
        exact g_iret_w B hr rfl hlocks (7 + (ks_dr (ks_dr sd) / 100 % 3), ks_dr (ks_dr sd)) (rfl) (⟨by unfold ks_nv; rw [if_neg c2, if_neg (by omega), if_neg (by omega)], by unfold ks_nv; rw [if_neg c2, if_neg (by omega), if_neg (by omega)]⟩) [0, 1, 2, 3] (by decide) rfl dX1_nextValue_67
      · refine g_iconst (v := (3 : Int32)) B dX1_nextValue_51 (by decide) ?_
        refine g_aload_n B dX1_nextValue_52 0 rfl ?_
        refine g_iconst (v := (4 : Int32)) B dX1_nextValue_53 (by decide) ?_
        refine g_callW (w2 := (fun (_ : Unit) => [(hg, .inr (1, [.ref g0, .ref g1, .ref g2, .int (nI (ks_dr (ks_dr sd)))])), (g0, .inl (cI, 4, .inl (fun i => nI (W.1 i)))), (g1, .inl (cI, 4, .inl (fun i => nI (W.2.1 i)))), (g2, .inl (cI, 4, .inl (fun i => nI (W.2.2 i))))])) (g_runV (q0 := 0) (ci := 1) B hK rfl rfl (k_drawnBelow l (D := D) (cI := cI) (cL := cL) (cZ := cZ) (cQ := cQ) hg g0 g1 g2 (ks_dr sd) 4 (by first | assumption | omega) (by first | assumption | omega) (by first | assumption | omega)) (gPw.pre (av := [.ref hg, .int (4 : Int32)]) (wc := [(hg, .inr (1, [.ref g0, .ref g1, .ref g2, .int (nI (ks_dr sd))]))]) hK hN [0] rfl (by decide)) gX1_nextValue_X1_drawnBelow rfl rfl kd_X1_drawnBelow ⟨by decide, by decide⟩ (st := [.int (3 : Int32)]) rfl (Nat.le_of_ble_eq_true rfl) dX1_nextValue_54 ⟨by decide, by decide⟩) hA (fun _ h => h) [0] [1, 2, 3] (wr := [(g0, .inl (cI, 4, .inl (fun i => nI (W.1 i)))), (g1, .inl (cI, 4, .inl (fun i => nI (W.2.1 i)))), (g2, .inl (cI, 4, .inl (fun i => nI (W.2.2 i))))]) rfl rfl (by decide) (by decide) [3, 0, 1, 2] (by decide) (fun _ => rfl) (fun u hu => ?_)
        refine g_iadd (v := nI (3 + (ks_dr (ks_dr sd) / 100 % 4))) B dX1_nextValue_57 (nI_add 3 (ks_dr (ks_dr sd) / 100 % 4)) ?_
        exact g_iret_w B hr rfl hlocks (3 + (ks_dr (ks_dr sd) / 100 % 4), ks_dr (ks_dr sd)) (rfl) (⟨by unfold ks_nv; rw [if_neg c2, if_neg (by omega), if_pos (by omega)], by unfold ks_nv; rw [if_neg c2, if_neg (by omega), if_pos (by omega)]⟩) [0, 1, 2, 3] (by decide) rfl dX1_nextValue_58
    · refine g_aload_n B dX1_nextValue_28 0 rfl ?_
      refine g_iconst (v := (3 : Int32)) B dX1_nextValue_29 (by decide) ?_
      refine g_callW (w2 := (fun (_ : Unit) => [(hg, .inr (1, [.ref g0, .ref g1, .ref g2, .int (nI (ks_dr (ks_dr sd)))])), (g0, .inl (cI, 4, .inl (fun i => nI (W.1 i)))), (g1, .inl (cI, 4, .inl (fun i => nI (W.2.1 i)))), (g2, .inl (cI, 4, .inl (fun i => nI (W.2.2 i))))])) (g_runV (q0 := 0) (ci := 1) B hK rfl rfl (k_drawnBelow l (D := D) (cI := cI) (cL := cL) (cZ := cZ) (cQ := cQ) hg g0 g1 g2 (ks_dr sd) 3 (by first | assumption | omega) (by first | assumption | omega) (by first | assumption | omega)) (gPw.pre (av := [.ref hg, .int (3 : Int32)]) (wc := [(hg, .inr (1, [.ref g0, .ref g1, .ref g2, .int (nI (ks_dr sd))]))]) hK hN [0] rfl (by decide)) gX1_nextValue_X1_drawnBelow rfl rfl kd_X1_drawnBelow ⟨by decide, by decide⟩ (st := []) rfl (Nat.le_of_ble_eq_true rfl) dX1_nextValue_30 ⟨by decide, by decide⟩) hA (fun _ h => h) [0] [1, 2, 3] (wr := [(g0, .inl (cI, 4, .inl (fun i => nI (W.1 i)))), (g1, .inl (cI, 4, .inl (fun i => nI (W.2.1 i)))), (g2, .inl (cI, 4, .inl (fun i => nI (W.2.2 i))))]) rfl rfl (by decide) (by decide) [3, 0, 1, 2] (by decide) (fun _ => rfl) (fun u hu => ?_)
      exact g_iret_w B hr rfl hlocks (ks_dr (ks_dr sd) / 100 % 3, ks_dr (ks_dr sd)) (rfl) (⟨by unfold ks_nv; rw [if_neg c2, if_pos (by omega)], by unfold ks_nv; rw [if_neg c2, if_pos (by omega)]⟩) [0, 1, 2, 3] (by decide) rfl dX1_nextValue_33
  · refine g_iconst (v := (0 : Int32)) B dX1_nextValue_10 (by decide) ?_
    exact g_iret_w B hr rfl hlocks (0, sd) (rfl) (⟨by unfold ks_nv; rw [if_pos c2], by unfold ks_nv; rw [if_pos c2]⟩) [0, 1, 2, 3] (by decide) rfl dX1_nextValue_11

