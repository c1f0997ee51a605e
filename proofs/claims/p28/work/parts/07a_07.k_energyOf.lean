set_option maxHeartbeats 400000 in
set_option maxRecDepth 100000 in
theorem k_energyOf (l : Launch) {D : va_G} {cI cL cZ cQ : ClassId} (ha : Nat) (a0 : Nat) (a1 : Nat) (a2 : Nat) (a3 : Nat) (n : Nat) (S : Int64) (F : Nat → Int64) (mu : Nat → Nat) (k : Nat) (hk : k < 41) (hmu : ∀ i, mu i < 1000) : PM l yX0_energyOf wsX0_energyOf ({ frames := 3, cells := 0, slots := 0, locals := 70 } : Room) D (gTys cI cL cZ cQ) [.ref ha, .int (nI k)] [(ha, .inr (0, [.ref a0, .ref a1, .ref a2, .ref a3, .int (nI n), .long S])), (a2, .inl (cI, 41, .inl (fun i => nI (mu i)))), (a3, .inl (cL, 41, .inr (.inl F)))] (fun (_ : Unit) => True) (fun (_ : Unit) => some (.int (nI (ks_en F S mu k)))) := by
  refine PM.ofG cX0_energyOf 5 (some .int) (by decide +kernel) rfl (Nat.le_of_ble_eq_true rfl) ?_
  intro p e s m below meth c B hr hlocks hname hK hN
  refine g_aload_n B dX0_energyOf_0 0 rfl ?_
  refine g_iload_n B dX0_energyOf_1 1 rfl ?_
  refine g_callP (g_runV (q0 := 0) (ci := 0) B hK rfl rfl (PM.met (k_isKept l (D := D) (cI := cI) (cL := cL) (cZ := cZ) (cQ := cQ) ha a0 a1 a2 a3 n S k (by first | with_reducible assumption | omega | assumption))) (gPp.pre (av := [.ref ha, .int (nI k)]) (wc := [(ha, .inr (0, [.ref a0, .ref a1, .ref a2, .ref a3, .int (nI n), .long S]))]) hK hN [0] rfl (by decide)) gX0_energyOf_X0_isKept rfl rfl kd_X0_isKept ⟨by decide, by decide⟩ (st := []) rfl (Nat.le_of_ble_eq_true rfl) dX0_energyOf_2 ⟨by decide, by decide⟩) (fun u hu => ?_)
  refine g_bif_ne (tgt := 10) B dX0_energyOf_5 (by decide) (fun c2 => ?_) (fun c2 => ?_)
  · refine g_aload_n B dX0_energyOf_10 0 rfl ?_
    refine g_iload_n B dX0_energyOf_11 1 rfl ?_
    refine g_aload_n B dX0_energyOf_12 0 rfl ?_
    refine g_get (C := RX0) (T := TX0) (N := 6) (ci := 0) B hK hin_X0_energyOf_RX0 0 rfl rfl 5 (by decide) (List.mem_of_getElem? (i := 1) rfl) rfl (v := .long S) rfl dX0_energyOf_13 ?_
    refine g_callP (g_runV (q0 := 0) (ci := 0) B hK rfl rfl (PM.met (k_foundAloneBy l (D := D) (cI := cI) (cL := cL) (cZ := cZ) (cQ := cQ) ha a0 a1 a2 a3 n S F S k (by first | with_reducible assumption | omega | assumption))) (gPp.pre (av := [.ref ha, .int (nI k), .long S]) (wc := [(ha, .inr (0, [.ref a0, .ref a1, .ref a2, .ref a3, .int (nI n), .long S])), (a3, .inl (cL, 41, .inr (.inl F)))]) hK hN [0, 2] rfl (by decide)) gX0_energyOf_X0_foundAloneBy rfl rfl kd_X0_foundAloneBy ⟨by decide, by decide⟩ (st := []) rfl (Nat.le_of_ble_eq_true rfl) dX0_energyOf_16 ⟨by decide, by decide⟩) (fun u hu => ?_)
    refine g_lstore_n (lv' := [(0, .ref ha), (1, .int (nI k)), (2, .long (ks_al F k S))]) B dX0_energyOf_19 rfl (by decide) [1, 2, 0] rfl ?_
    refine g_lload_n B dX0_energyOf_20 2 rfl ?_
    refine g_bipush (v := (24 : Int32)) B dX0_energyOf_21 (by decide) ?_
    refine g_lushr (v := lShr (ks_al F k S) (24 : Int32)) B dX0_energyOf_23 (rfl) ?_
    refine g_lconst (v := (0 : Int64)) B dX0_energyOf_24 rfl ?_
    refine g_lcmp (v := (lg_cmp (lShr (ks_al F k S) (24 : Int32)) (0 : Int64))) B dX0_energyOf_25 rfl ?_
    refine g_lif_eq (tgt := 33) B dX0_energyOf_26 (by decide) (fun c4 => ?_) (fun c4 => ?_)
    · refine g_iconst (v := (0 : Int32)) B dX0_energyOf_33 (by decide) ?_
      refine g_istore (lv' := [(0, .ref ha), (1, .int (nI k)), (2, .long (ks_al F k S)), (4, .int (0 : Int32))]) B dX0_energyOf_34 (by decide) [1, 2, 3, 0] rfl ?_
      refine g_iconst (v := (0 : Int32)) B dX0_energyOf_36 (by decide) ?_
      refine g_iconst (v := (1 : Int32)) B dX0_energyOf_37 (by decide) ?_
      refine g_iconst (v := (3 : Int32)) B dX0_energyOf_38 (by decide) ?_
      refine g_lload_n B dX0_energyOf_39 2 rfl ?_
      refine g_callP (g_runSN B hN (PM.met (k_edgesIn l (D := D) (cI := cI) (cL := cL) (cZ := cZ) (cQ := cQ) (ks_al F k S) )) (gPp.pre (av := [.long (ks_al F k S)]) (wc := []) hK hN [] rfl (by decide)) gX0_energyOf_X5_edgesIn_n62 (List.mem_of_getElem? (i := 13) rfl) (List.mem_of_getElem? (i := 27) rfl) 5 rfl rfl kd_X5_edgesIn ⟨by decide, by decide⟩ (st := [.int (3 : Int32), .int (1 : Int32), .int (0 : Int32)]) rfl (Nat.le_of_ble_eq_true rfl) dX0_energyOf_40 ⟨by decide, by decide⟩) (fun u hu => ?_)
      refine g_imul (v := nI (3 * (ks_ed (ks_al F k S)))) B dX0_energyOf_43 (pk_mul 3 (ks_ed (ks_al F k S))) ?_
      refine g_iadd (v := nI (1 + (3 * (ks_ed (ks_al F k S))))) B dX0_energyOf_44 (nI_add 1 (3 * (ks_ed (ks_al F k S)))) ?_
      refine g_iload B dX0_energyOf_45 3 rfl ?_
      refine g_iadd (v := nI (1 + (3 * (ks_ed (ks_al F k S))))) B dX0_energyOf_47 (nI_add (1 + (3 * (ks_ed (ks_al F k S)))) 0) ?_
      refine g_aload_n B dX0_energyOf_48 0 rfl ?_
      refine g_get (C := RX0) (T := TX0) (N := 6) (ci := 0) B hK hin_X0_energyOf_RX0 0 rfl rfl 2 (by decide) (List.mem_of_getElem? (i := 2) rfl) rfl (v := .ref a2) rfl dX0_energyOf_49 ?_
      refine g_iload_n B dX0_energyOf_52 1 rfl ?_
      refine g_iald B hK 1 0 rfl rfl k rfl (by omega) (by omega) (v := nI (mu k)) rfl dX0_energyOf_53 ?_
      refine g_isub (v := ((nI (1 + (3 * (ks_ed (ks_al F k S))))) - nI (mu k))) B dX0_energyOf_54 (rfl) ?_
      refine g_mmax (v := (if (0 : Int32) < ((nI (1 + (3 * (ks_ed (ks_al F k S))))) - nI (mu k)) then ((nI (1 + (3 * (ks_ed (ks_al F k S))))) - nI (mu k)) else (0 : Int32))) B (List.mem_of_getElem? (i := 3) rfl) (List.mem_of_getElem? (i := 4) rfl) (List.mem_of_getElem? (i := 5) rfl) (List.mem_of_getElem? (i := 6) rfl) (by decide) (by decide) (by decide) (by decide) dX0_energyOf_55 (rfl) ?_
      have w1 := ks_ed_le (ks_al F k S); have w2 := hmu k
      refine g_eqi (y := nI (ks_en F S mu k)) (by rw [show ks_en F S mu k = 1 + 3 * ks_ed (ks_al F k S) + 0 - mu k from by unfold ks_en; rw [c2, if_pos rfl, if_pos c4]]; exact ks_max0 (by omega) (by omega)) ?_
      exact g_iret_p B hr rfl hlocks () (rfl) (trivial) dX0_energyOf_58
    · refine g_iconst (v := (5 : Int32)) B dX0_energyOf_29 (by decide) ?_
      refine g_goto (tgt := 34) B dX0_energyOf_30 (by decide) ?_
      refine g_istore (lv' := [(0, .ref ha), (1, .int (nI k)), (2, .long (ks_al F k S)), (4, .int (5 : Int32))]) B dX0_energyOf_34 (by decide) [1, 2, 3, 0] rfl ?_
      refine g_iconst (v := (0 : Int32)) B dX0_energyOf_36 (by decide) ?_
      refine g_iconst (v := (1 : Int32)) B dX0_energyOf_37 (by decide) ?_
      refine g_iconst (v := (3 : Int32)) B dX0_energyOf_38 (by decide) ?_
      refine g_lload_n B dX0_energyOf_39 2 rfl ?_
      refine g_callP (g_runSN B hN (PM.met (k_edgesIn l (D := D) (cI := cI) (cL := cL) (cZ := cZ) (cQ := cQ) (ks_al F k S) )) (gPp.pre (av := [.long (ks_al F k S)]) (wc := []) hK hN [] rfl (by decide)) gX0_energyOf_X5_edgesIn_n62 (List.mem_of_getElem? (i := 13) rfl) (List.mem_of_getElem? (i := 27) rfl) 5 rfl rfl kd_X5_edgesIn ⟨by decide, by decide⟩ (st := [.int (3 : Int32), .int (1 : Int32), .int (0 : Int32)]) rfl (Nat.le_of_ble_eq_true rfl) dX0_energyOf_40 ⟨by decide, by decide⟩) (fun u hu => ?_)
      refine g_imul (v := nI (3 * (ks_ed (ks_al F k S)))) B dX0_energyOf_43 (pk_mul 3 (ks_ed (ks_al F k S))) ?_
      refine g_iadd (v := nI (1 + (3 * (ks_ed (ks_al F k S))))) B dX0_energyOf_44 (nI_add 1 (3 * (ks_ed (ks_al F k S)))) ?_
      refine g_iload B dX0_energyOf_45 3 rfl ?_
      refine g_iadd (v := nI ((1 + (3 * (ks_ed (ks_al F k S)))) + 5)) B dX0_energyOf_47 (nI_add (1 + (3 * (ks_ed (ks_al F k S)))) 5) ?_
      refine g_aload_n B dX0_energyOf_48 0 rfl ?_
      refine g_get (C := RX0) (T := TX0) (N := 6) (ci := 0) B hK hin_X0_energyOf_RX0 0 rfl rfl 2 (by decide) (List.mem_of_getElem? (i := 2) rfl) rfl (v := .ref a2) rfl dX0_energyOf_49 ?_
      refine g_iload_n B dX0_energyOf_52 1 rfl ?_
      refine g_iald B hK 1 0 rfl rfl k rfl (by omega) (by omega) (v := nI (mu k)) rfl dX0_energyOf_53 ?_
      refine g_isub (v := ((nI ((1 + (3 * (ks_ed (ks_al F k S)))) + 5)) - nI (mu k))) B dX0_energyOf_54 (rfl) ?_
      refine g_mmax (v := (if (0 : Int32) < ((nI ((1 + (3 * (ks_ed (ks_al F k S)))) + 5)) - nI (mu k)) then ((nI ((1 + (3 * (ks_ed (ks_al F k S)))) + 5)) - nI (mu k)) else (0 : Int32))) B (List.mem_of_getElem? (i := 3) rfl) (List.mem_of_getElem? (i := 4) rfl) (List.mem_of_getElem? (i := 5) rfl) (List.mem_of_getElem? (i := 6) rfl) (by decide) (by decide) (by decide) (by decide) dX0_energyOf_55 (rfl) ?_
      have w1 := ks_ed_le (ks_al F k S); have w2 := hmu k
      refine g_eqi (y := nI (ks_en F S mu k)) (by rw [show ks_en F S mu k = 1 + 3 * ks_ed (ks_al F k S) + 5 - mu k from by unfold ks_en; rw [c2, if_pos rfl, if_neg c4]]; exact ks_max0 (by omega) (by omega)) ?_
      exact g_iret_p B hr rfl hlocks () (rfl) (trivial) dX0_energyOf_58
  · refine g_iconst (v := (0 : Int32)) B dX0_energyOf_8 (by decide) ?_
    exact g_iret_p B hr rfl hlocks () (by rw [show ks_en F S mu k = 0 from by unfold ks_en; rw [c2]; rfl]; rfl) (trivial) dX0_energyOf_9

