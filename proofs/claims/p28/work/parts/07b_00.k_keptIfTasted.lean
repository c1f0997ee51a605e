set_option maxHeartbeats 400000 in
set_option maxRecDepth 100000 in
theorem k_keptIfTasted (l : Launch) {D : va_G} {cI cL cZ cQ : ClassId} (ha : Nat) (a0 : Nat) (a1 : Nat) (a2 : Nat) (a3 : Nat) (n : Nat) (S : Int64) (f0 : Nat → Int32) (f1 : Nat → Int32) (F : Nat → Int64) (t : Nat → Nat) (ht : Nat) (t0 : Nat) (ts : Int32) (tr : Int32) (tf : Int64) (ca : Nat) (hn : n ≤ 40) (hca : ca < 10000) (h0 : ∀ i, i < n → f0 i = nI (t i) ∧ t i < 10000) : WM l yX0_keptIfTasted wsX0_keptIfTasted ({ frames := 4, cells := 0, slots := 0, locals := 95 } : Room) D (gTys cI cL cZ cQ) [.ref ha, .int (nI ca), .ref ht] [(ha, .inr (0, [.ref a0, .ref a1, .ref a2, .ref a3, .int (nI n), .long S])), (a0, .inl (cI, 41, .inl f0)), (a1, .inl (cI, 41, .inl f1)), (a3, .inl (cL, 41, .inr (.inl F))), (ht, .inr (4, [.ref t0, .int ts, .int tr, .long tf]))] (fun (_ : Unit) => True) (fun (_ : Unit) => some (.long (ks_kt t n ca F tf S))) (fun (_ : Unit) => [(ha, .inr (0, [.ref a0, .ref a1, .ref a2, .ref a3, .int (nI n), .long S])), (a0, .inl (cI, 41, .inl (ks_ka t n ca f0))), (a1, .inl (cI, 41, .inl (ks_kr t n ca f1 tr))), (a3, .inl (cL, 41, .inr (.inl (ks_kf t n ca F tf)))), (ht, .inr (4, [.ref t0, .int ts, .int tr, .long tf]))]) := by
  refine WM.ofG cX0_keptIfTasted 3 (some .long) (by decide +kernel) rfl (Nat.le_of_ble_eq_true rfl) ?_
  intro p e s m below meth c A hA B hr hlocks hname hK hN
  refine g_aload_n B dX0_keptIfTasted_0 0 rfl ?_
  refine g_get (C := RX0) (T := TX0) (N := 6) (ci := 0) B hK hin_X0_keptIfTasted_RX0 0 rfl rfl 4 (by decide) (List.mem_of_getElem? (i := 1) rfl) rfl (v := .int (nI n)) rfl dX0_keptIfTasted_1 ?_
  refine g_bipush (v := (41 : Int32)) B dX0_keptIfTasted_4 (by decide) ?_
  refine g_ncmp_ge (tgt := 18) B n 41 rfl rfl (by omega) (by omega) dX0_keptIfTasted_6 (by decide) (fun c2 => ?_) (fun c2 => ?_)
  · exfalso; omega
  refine g_aload_n B dX0_keptIfTasted_9 0 rfl ?_
  refine g_iload_n B dX0_keptIfTasted_10 1 rfl ?_
  refine g_callP (g_runV (q0 := 0) (ci := 0) B hK rfl rfl (PM.met (k_numberOf l (D := D) (cI := cI) (cL := cL) (cZ := cZ) (cQ := cQ) ha a0 a1 a2 a3 n S f0 t ca (by first | with_reducible assumption | omega | assumption) (by first | with_reducible assumption | omega | assumption) (by first | with_reducible assumption | omega | assumption))) (gPp.pre (av := [.ref ha, .int (nI ca)]) (wc := [(ha, .inr (0, [.ref a0, .ref a1, .ref a2, .ref a3, .int (nI n), .long S])), (a0, .inl (cI, 41, .inl f0))]) hK hN [0, 1] rfl (by decide)) gX0_keptIfTasted_X0_numberOf rfl rfl kd_X0_numberOf ⟨by decide, by decide⟩ (st := []) rfl (Nat.le_of_ble_eq_true rfl) dX0_keptIfTasted_11 ⟨by decide, by decide⟩) (fun u hu => ?_)
  refine g_iconst (v := (-1 : Int32)) B dX0_keptIfTasted_14 (by decide) ?_
  refine g_icmp_eq (tgt := 23) B dX0_keptIfTasted_15 (by decide) (fun c4 => ?_) (fun c4 => ?_)
  · refine g_aload_n B dX0_keptIfTasted_23 0 rfl ?_
    refine g_get (C := RX0) (T := TX0) (N := 6) (ci := 0) B hK hin_X0_keptIfTasted_RX0 0 rfl rfl 0 (by decide) (List.mem_of_getElem? (i := 3) rfl) rfl (v := .ref a0) rfl dX0_keptIfTasted_24 ?_
    refine g_aload_n B dX0_keptIfTasted_27 0 rfl ?_
    refine g_get (C := RX0) (T := TX0) (N := 6) (ci := 0) B hK hin_X0_keptIfTasted_RX0 0 rfl rfl 4 (by decide) (List.mem_of_getElem? (i := 1) rfl) rfl (v := .int (nI n)) rfl dX0_keptIfTasted_28 ?_
    refine g_iload_n B dX0_keptIfTasted_31 1 rfl ?_
    refine g_iast B hK 1 0 rfl rfl n rfl (by omega) (by omega) (f2 := (upd f0 n (nI ca))) (rfl) (w2 := [(ha, .inr (0, [.ref a0, .ref a1, .ref a2, .ref a3, .int (nI n), .long S])), (a0, .inl (cI, 41, .inl (upd f0 n (nI ca)))), (a1, .inl (cI, 41, .inl f1)), (a3, .inl (cL, 41, .inr (.inl F))), (ht, .inr (4, [.ref t0, .int ts, .int tr, .long tf]))]) rfl (fun _ h => h) dX0_keptIfTasted_32 ?_
    refine g_aload_n B dX0_keptIfTasted_33 0 rfl ?_
    refine g_aload_n B dX0_keptIfTasted_34 0 rfl ?_
    refine g_get (C := RX0) (T := TX0) (N := 6) (ci := 0) B hK hin_X0_keptIfTasted_RX0 0 rfl rfl 4 (by decide) (List.mem_of_getElem? (i := 1) rfl) rfl (v := .int (nI n)) rfl dX0_keptIfTasted_35 ?_
    refine g_aload_n B dX0_keptIfTasted_38 2 rfl ?_
    refine g_callW (w2 := (fun (_ : Unit) => [(ha, .inr (0, [.ref a0, .ref a1, .ref a2, .ref a3, .int (nI n), .long S])), (a0, .inl (cI, 41, .inl (upd f0 n (nI ca)))), (a1, .inl (cI, 41, .inl (upd f1 n tr))), (a3, .inl (cL, 41, .inr (.inl (vp_updL F n tf)))), (ht, .inr (4, [.ref t0, .int ts, .int tr, .long tf]))])) (g_runV (q0 := 0) (ci := 0) B hK rfl rfl (k_note l (D := D) (cI := cI) (cL := cL) (cZ := cZ) (cQ := cQ) ha a0 a1 a2 a3 n S f1 F ht t0 ts tr tf n (by first | with_reducible assumption | omega | assumption)) (gPw.pre (av := [.ref ha, .int (nI n), .ref ht]) (wc := [(ha, .inr (0, [.ref a0, .ref a1, .ref a2, .ref a3, .int (nI n), .long S])), (a1, .inl (cI, 41, .inl f1)), (a3, .inl (cL, 41, .inr (.inl F))), (ht, .inr (4, [.ref t0, .int ts, .int tr, .long tf]))]) hK hN [0, 2, 3, 4] rfl (by decide)) gX0_keptIfTasted_X0_note rfl rfl kd_X0_note ⟨by decide, by decide⟩ (st := []) rfl (Nat.le_of_ble_eq_true rfl) dX0_keptIfTasted_39 ⟨by decide, by decide⟩) hA (fun _ h => h) [0, 2, 3, 4] [1] (wr := [(a0, .inl (cI, 41, .inl (upd f0 n (nI ca))))]) rfl rfl (by decide) (by decide) [1, 0, 2, 3, 4] (by decide) (fun _ => rfl) (fun u hu => ?_)
    refine g_aload_n B dX0_keptIfTasted_42 0 rfl ?_
    refine g_aload_n B dX0_keptIfTasted_43 0 rfl ?_
    refine g_get (C := RX0) (T := TX0) (N := 6) (ci := 0) B hK hin_X0_keptIfTasted_RX0 0 rfl rfl 4 (by decide) (List.mem_of_getElem? (i := 1) rfl) rfl (v := .int (nI n)) rfl dX0_keptIfTasted_44 ?_
    refine g_aload_n B dX0_keptIfTasted_47 0 rfl ?_
    refine g_get (C := RX0) (T := TX0) (N := 6) (ci := 0) B hK hin_X0_keptIfTasted_RX0 0 rfl rfl 5 (by decide) (List.mem_of_getElem? (i := 2) rfl) rfl (v := .long S) rfl dX0_keptIfTasted_48 ?_
    refine g_callP (g_runV (q0 := 0) (ci := 0) B hK rfl rfl (PM.met (k_foundAloneBy l (D := D) (cI := cI) (cL := cL) (cZ := cZ) (cQ := cQ) ha a0 a1 a2 a3 n S (vp_updL F n tf) S n (by first | with_reducible assumption | omega | assumption))) (gPp.pre (av := [.ref ha, .int (nI n), .long S]) (wc := [(ha, .inr (0, [.ref a0, .ref a1, .ref a2, .ref a3, .int (nI n), .long S])), (a3, .inl (cL, 41, .inr (.inl (vp_updL F n tf))))]) hK hN [0, 3] rfl (by decide)) gX0_keptIfTasted_X0_foundAloneBy rfl rfl kd_X0_foundAloneBy ⟨by decide, by decide⟩ (st := []) rfl (Nat.le_of_ble_eq_true rfl) dX0_keptIfTasted_51 ⟨by decide, by decide⟩) (fun u hu => ?_)
    refine g_lconst (v := (0 : Int64)) B dX0_keptIfTasted_54 rfl ?_
    refine g_lcmp (v := (lg_cmp (ks_al (vp_updL F n tf) n S) (0 : Int64))) B dX0_keptIfTasted_55 rfl ?_
    refine g_lif_ne (tgt := 64) B dX0_keptIfTasted_56 (by decide) (fun c7 => ?_) (fun c7 => ?_)
    · refine g_aload_n B dX0_keptIfTasted_64 0 rfl ?_
      refine g_aload_n B dX0_keptIfTasted_65 0 rfl ?_
      refine g_get (C := RX0) (T := TX0) (N := 6) (ci := 0) B hK hin_X0_keptIfTasted_RX0 0 rfl rfl 5 (by decide) (List.mem_of_getElem? (i := 2) rfl) rfl (v := .long S) rfl dX0_keptIfTasted_66 ?_
      refine g_aload_n B dX0_keptIfTasted_69 0 rfl ?_
      refine g_get (C := RX0) (T := TX0) (N := 6) (ci := 0) B hK hin_X0_keptIfTasted_RX0 0 rfl rfl 4 (by decide) (List.mem_of_getElem? (i := 1) rfl) rfl (v := .int (nI n)) rfl dX0_keptIfTasted_70 ?_
      refine g_callP (g_runSN B hN (PM.met (k_bit l (D := D) (cI := cI) (cL := cL) (cZ := cZ) (cQ := cQ) n (by first | with_reducible assumption | omega | assumption))) (gPp.pre (av := [.int (nI n)]) (wc := []) hK hN [] rfl (by decide)) gX0_keptIfTasted_X5_bit_n37 (List.mem_of_getElem? (i := 21) rfl) (List.mem_of_getElem? (i := 20) rfl) 4 rfl rfl kd_X5_bit ⟨by decide, by decide⟩ (st := [.long S, .ref ha]) rfl (Nat.le_of_ble_eq_true rfl) dX0_keptIfTasted_73 ⟨by decide, by decide⟩) (fun u hu => ?_)
      refine g_lor (v := (S ||| (lShl 1 (nI n)))) B dX0_keptIfTasted_76 (rfl) ?_
      refine g_callP (g_runV (q0 := 0) (ci := 0) B hK rfl rfl (PM.met (k_neededOf l (D := D) (cI := cI) (cL := cL) (cZ := cZ) (cQ := cQ) ha a0 a1 a2 a3 n S (vp_updL F n tf) (S ||| (lShl 1 (nI n))) )) (gPp.pre (av := [.ref ha, .long (S ||| (lShl 1 (nI n)))]) (wc := [(ha, .inr (0, [.ref a0, .ref a1, .ref a2, .ref a3, .int (nI n), .long S])), (a3, .inl (cL, 41, .inr (.inl (vp_updL F n tf))))]) hK hN [0, 3] rfl (by decide)) gX0_keptIfTasted_X0_neededOf rfl rfl kd_X0_neededOf ⟨by decide, by decide⟩ (st := []) rfl (Nat.le_of_ble_eq_true rfl) dX0_keptIfTasted_77 ⟨by decide, by decide⟩) (fun u hu => ?_)
      have hm : ¬ ks_no t n ca < n := (oI_m1 hn).mp c4
      refine g_eqw (w2 := [(ha, .inr (0, [.ref a0, .ref a1, .ref a2, .ref a3, .int (nI n), .long S])), (a0, .inl (cI, 41, .inl (ks_ka t n ca f0))), (a1, .inl (cI, 41, .inl (ks_kr t n ca f1 tr))), (a3, .inl (cL, 41, .inr (.inl (ks_kf t n ca F tf)))), (ht, .inr (4, [.ref t0, .int ts, .int tr, .long tf]))]) (by rw [show ks_ka t n ca f0 = _ from if_neg hm, show ks_kr t n ca f1 tr = _ from if_neg hm, show ks_kf t n ca F tf = _ from if_neg hm]) ?_
      refine g_eql (y := ks_kt t n ca F tf S) (by rw [show ks_kt t n ca F tf S = ks_ta (vp_updL F n tf) n S from if_neg hm]; unfold ks_ta; rw [if_neg c7]) ?_
      exact g_lret_w B hr hlocks () (rfl) (trivial) [0, 1, 2, 3, 4] (by decide) rfl dX0_keptIfTasted_80
    · refine g_aload_n B dX0_keptIfTasted_59 0 rfl ?_
      refine g_get (C := RX0) (T := TX0) (N := 6) (ci := 0) B hK hin_X0_keptIfTasted_RX0 0 rfl rfl 5 (by decide) (List.mem_of_getElem? (i := 2) rfl) rfl (v := .long S) rfl dX0_keptIfTasted_60 ?_
      have hm : ¬ ks_no t n ca < n := (oI_m1 hn).mp c4
      refine g_eqw (w2 := [(ha, .inr (0, [.ref a0, .ref a1, .ref a2, .ref a3, .int (nI n), .long S])), (a0, .inl (cI, 41, .inl (ks_ka t n ca f0))), (a1, .inl (cI, 41, .inl (ks_kr t n ca f1 tr))), (a3, .inl (cL, 41, .inr (.inl (ks_kf t n ca F tf)))), (ht, .inr (4, [.ref t0, .int ts, .int tr, .long tf]))]) (by rw [show ks_ka t n ca f0 = _ from if_neg hm, show ks_kr t n ca f1 tr = _ from if_neg hm, show ks_kf t n ca F tf = _ from if_neg hm]) ?_
      refine g_eql (y := ks_kt t n ca F tf S) (by rw [show ks_kt t n ca F tf S = ks_ta (vp_updL F n tf) n S from if_neg hm]; unfold ks_ta; rw [if_pos c7]) ?_
      exact g_lret_w B hr hlocks () (rfl) (trivial) [0, 1, 2, 3, 4] (by decide) rfl dX0_keptIfTasted_63
  · refine g_aload_n B dX0_keptIfTasted_18 0 rfl ?_
    refine g_get (C := RX0) (T := TX0) (N := 6) (ci := 0) B hK hin_X0_keptIfTasted_RX0 0 rfl rfl 5 (by decide) (List.mem_of_getElem? (i := 2) rfl) rfl (v := .long S) rfl dX0_keptIfTasted_19 ?_
    have hm : ks_no t n ca < n := Classical.not_not.mp (fun h => c4 ((oI_m1 hn).mpr h))
    refine g_eqw (w2 := [(ha, .inr (0, [.ref a0, .ref a1, .ref a2, .ref a3, .int (nI n), .long S])), (a0, .inl (cI, 41, .inl (ks_ka t n ca f0))), (a1, .inl (cI, 41, .inl (ks_kr t n ca f1 tr))), (a3, .inl (cL, 41, .inr (.inl (ks_kf t n ca F tf)))), (ht, .inr (4, [.ref t0, .int ts, .int tr, .long tf]))]) (by rw [show ks_ka t n ca f0 = _ from if_pos hm, show ks_kr t n ca f1 tr = _ from if_pos hm, show ks_kf t n ca F tf = _ from if_pos hm]) ?_
    refine g_eql (y := ks_kt t n ca F tf S) ((if_pos hm).symm) ?_
    exact g_lret_w B hr hlocks () (rfl) (trivial) [0, 1, 2, 3, 4] (by decide) rfl dX0_keptIfTasted_22

