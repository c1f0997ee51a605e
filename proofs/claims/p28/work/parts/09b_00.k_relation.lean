set_option maxHeartbeats 400000 in
set_option maxRecDepth 100000 in
theorem k_relation (l : Launch) {D : va_G} {cI cL cZ cQ : ClassId} (hb : Nat) (hp : Nat) (ht : Nat) (hg : Nat) (ha : Nat) (hq : Nat) (r0 : Nat) (r1 : Nat) (r2 : Nat) (Q : Rg) (rc : Nat) (b1 : Nat) (b2 : Nat) (b3 : Nat) (hc : rc < 6) (h1 : b1 < 2) (h2 : b2 < 4) (h3 : b3 < 4) (h4 : ¬ b2 = b3) : WM l yX5_relation wsX5_relation ({ frames := 1, cells := 0, slots := 0, locals := 23 } : Room) D (gTys cI cL cZ cQ) [.ref hb, .int (nI b1), .int (nI b2), .int (nI b3)] [(hb, .inr (5, [.ref hp, .ref ht, .ref hg, .ref ha, .ref hq])), (hq, .inr (3, [.ref r0, .ref r1, .ref r2, .int (nI rc)])), (r0, .inl (cI, 6, .inl (fun i => nI (Q.1 i)))), (r1, .inl (cI, 6, .inl (fun i => nI (Q.2.1 i)))), (r2, .inl (cI, 6, .inl (fun i => nI (Q.2.2 i))))] (fun (_ : Unit) => True) (fun (_ : Unit) => some (.int (nI rc))) (fun (_ : Unit) => [(hb, .inr (5, [.ref hp, .ref ht, .ref hg, .ref ha, .ref hq])), (hq, .inr (3, [.ref r0, .ref r1, .ref r2, .int (nI (rc + 1))])), (r0, .inl (cI, 6, .inl (fun i => nI ((ks_setR Q rc b1 b2 b3).1 i)))), (r1, .inl (cI, 6, .inl (fun i => nI ((ks_setR Q rc b1 b2 b3).2.1 i)))), (r2, .inl (cI, 6, .inl (fun i => nI ((ks_setR Q rc b1 b2 b3).2.2 i))))]) := by
  refine WM.ofG cX5_relation 4 (some .int) (by decide +kernel) rfl (Nat.le_of_ble_eq_true rfl) ?_
  intro p e s m below meth c A hA B hr hlocks hname hK hN
  refine g_iload_n B dX5_relation_0 1 rfl ?_
  refine g_nif_eq (tgt := 19) B b1 rfl (by omega) dX5_relation_1 (by decide) (fun c2 => ?_) (fun c2 => ?_)
  · refine g_iload_n B dX5_relation_19 1 rfl ?_
    refine g_nif_ne (tgt := 38) B b1 rfl (by omega) dX5_relation_20 (by decide) (fun c4 => ?_) (fun c4 => ?_)
    · refine g_iload_n B dX5_relation_38 2 rfl ?_
      refine g_callP (g_runS B (PM.met (k_checkSlot_n l (D := D) (cI := cI) (cL := cL) (cZ := cZ) (cQ := cQ) b2 (by first | with_reducible assumption | omega | assumption))) (gPp.pre (av := [.int (nI b2)]) (wc := []) hK hN [] rfl (by decide)) gX5_relation_X5_checkSlot rfl kd_X5_checkSlot ⟨by decide, by decide⟩ (st := []) rfl (Nat.le_of_ble_eq_true rfl) dX5_relation_39 ⟨by decide, by decide⟩) (fun u hu => ?_)
      refine g_iload_n B dX5_relation_42 1 rfl ?_
      refine g_nif_ne (tgt := 50) B b1 rfl (by omega) dX5_relation_43 (by decide) (fun c7 => ?_) (fun c7 => ?_)
      · refine g_aload_n B dX5_relation_50 0 rfl ?_
        refine g_get (C := RX5) (T := TX5) (N := 5) (ci := 5) B hK hin_X5_relation_RX5 0 rfl rfl 4 (by decide) (List.mem_of_getElem? (i := 5) rfl) rfl (v := .ref hq) rfl dX5_relation_51 ?_
        refine g_getN (C := RX3) (T := TX3) (N := 4) (ci := 3) B hK hin_X5_relation_RX3 1 rfl rfl 3 (by decide) hN 8 rfl rfl (v := .int (nI rc)) rfl dX5_relation_54 ?_
        refine g_bipush (v := (6 : Int32)) B dX5_relation_57 (by decide) ?_
        refine g_ncmp_lt (tgt := 72) B rc 6 rfl rfl (by omega) (by omega) dX5_relation_59 (by decide) (fun c9 => ?_) (fun c9 => ?_)
        rotate_left; · exfalso; omega
        refine g_aload_n B dX5_relation_72 0 rfl ?_
        refine g_get (C := RX5) (T := TX5) (N := 5) (ci := 5) B hK hin_X5_relation_RX5 0 rfl rfl 4 (by decide) (List.mem_of_getElem? (i := 5) rfl) rfl (v := .ref hq) rfl dX5_relation_73 ?_
        refine g_iload_n B dX5_relation_76 1 rfl ?_
        refine g_iload_n B dX5_relation_77 2 rfl ?_
        refine g_iload_n B dX5_relation_78 3 rfl ?_
        refine g_callW (w2 := (fun (_ : Unit) => [(hb, .inr (5, [.ref hp, .ref ht, .ref hg, .ref ha, .ref hq])), (hq, .inr (3, [.ref r0, .ref r1, .ref r2, .int (nI (rc + 1))])), (r0, .inl (cI, 6, .inl (fun i => nI ((ks_setR Q rc b1 b2 b3).1 i)))), (r1, .inl (cI, 6, .inl (fun i => nI ((ks_setR Q rc b1 b2 b3).2.1 i)))), (r2, .inl (cI, 6, .inl (fun i => nI ((ks_setR Q rc b1 b2 b3).2.2 i))))])) (g_runV (q0 := 1) (ci := 3) B hK rfl rfl (k_add l (D := D) (cI := cI) (cL := cL) (cZ := cZ) (cQ := cQ) hq r0 r1 r2 Q rc b1 b2 b3 (by first | with_reducible assumption | omega | assumption)) (gPw.pre (av := [.ref hq, .int (nI b1), .int (nI b2), .int (nI b3)]) (wc := [(hq, .inr (3, [.ref r0, .ref r1, .ref r2, .int (nI rc)])), (r0, .inl (cI, 6, .inl (fun i => nI (Q.1 i)))), (r1, .inl (cI, 6, .inl (fun i => nI (Q.2.1 i)))), (r2, .inl (cI, 6, .inl (fun i => nI (Q.2.2 i))))]) hK hN [1, 2, 3, 4] rfl (by decide)) gX5_relation_X3_add rfl rfl kd_X3_add ⟨by decide, by decide⟩ (st := []) rfl (Nat.le_of_ble_eq_true rfl) dX5_relation_79 ⟨by decide, by decide⟩) hA (fun _ h => h) [1, 2, 3, 4] [0] (wr := [(hb, .inr (5, [.ref hp, .ref ht, .ref hg, .ref ha, .ref hq]))]) rfl rfl (by decide) (by decide) [0, 1, 2, 3, 4] (by decide) (fun _ => rfl) (fun u hu => ?_)
        exact g_iret_w B hr rfl hlocks () (rfl) (trivial) [0, 1, 2, 3, 4] (by decide) rfl dX5_relation_82
      · refine g_iload_n B dX5_relation_46 3 rfl ?_
        refine g_callP (g_runS B (PM.met (k_checkSlot_n l (D := D) (cI := cI) (cL := cL) (cZ := cZ) (cQ := cQ) b3 (by first | with_reducible assumption | omega | assumption))) (gPp.pre (av := [.int (nI b3)]) (wc := []) hK hN [] rfl (by decide)) gX5_relation_X5_checkSlot rfl kd_X5_checkSlot ⟨by decide, by decide⟩ (st := []) rfl (Nat.le_of_ble_eq_true rfl) dX5_relation_47 ⟨by decide, by decide⟩) (fun u hu => ?_)
        refine g_aload_n B dX5_relation_50 0 rfl ?_
        refine g_get (C := RX5) (T := TX5) (N := 5) (ci := 5) B hK hin_X5_relation_RX5 0 rfl rfl 4 (by decide) (List.mem_of_getElem? (i := 5) rfl) rfl (v := .ref hq) rfl dX5_relation_51 ?_
        refine g_getN (C := RX3) (T := TX3) (N := 4) (ci := 3) B hK hin_X5_relation_RX3 1 rfl rfl 3 (by decide) hN 8 rfl rfl (v := .int (nI rc)) rfl dX5_relation_54 ?_
        refine g_bipush (v := (6 : Int32)) B dX5_relation_57 (by decide) ?_
        refine g_ncmp_lt (tgt := 72) B rc 6 rfl rfl (by omega) (by omega) dX5_relation_59 (by decide) (fun c13 => ?_) (fun c13 => ?_)
        rotate_left; · exfalso; omega
        refine g_aload_n B dX5_relation_72 0 rfl ?_
        refine g_get (C := RX5) (T := TX5) (N := 5) (ci := 5) B hK hin_X5_relation_RX5 0 rfl rfl 4 (by decide) (List.mem_of_getElem? (i := 5) rfl) rfl (v := .ref hq) rfl dX5_relation_73 ?_
        refine g_iload_n B dX5_relation_76 1 rfl ?_
        refine g_iload_n B dX5_relation_77 2 rfl ?_
        refine g_iload_n B dX5_relation_78 3 rfl ?_
        refine g_callW (w2 := (fun (_ : Unit) => [(hb, .inr (5, [.ref hp, .ref ht, .ref hg, .ref ha, .ref hq])), (hq, .inr (3, [.ref r0, .ref r1, .ref r2, .int (nI (rc + 1))])), (r0, .inl (cI, 6, .inl (fun i => nI ((ks_setR Q rc b1 b2 b3).1 i)))), (r1, .inl (cI, 6, .inl (fun i => nI ((ks_setR Q rc b1 b2 b3).2.1 i)))), (r2, .inl (cI, 6, .inl (fun i => nI ((ks_setR Q rc b1 b2 b3).2.2 i))))])) (g_runV (q0 := 1) (ci := 3) B hK rfl rfl (k_add l (D := D) (cI := cI) (cL := cL) (cZ := cZ) (cQ := cQ) hq r0 r1 r2 Q rc b1 b2 b3 (by first | with_reducible assumption | omega | assumption)) (gPw.pre (av := [.ref hq, .int (nI b1), .int (nI b2), .int (nI b3)]) (wc := [(hq, .inr (3, [.ref r0, .ref r1, .ref r2, .int (nI rc)])), (r0, .inl (cI, 6, .inl (fun i => nI (Q.1 i)))), (r1, .inl (cI, 6, .inl (fun i => nI (Q.2.1 i)))), (r2, .inl (cI, 6, .inl (fun i => nI (Q.2.2 i))))]) hK hN [1, 2, 3, 4] rfl (by decide)) gX5_relation_X3_add rfl rfl kd_X3_add ⟨by decide, by decide⟩ (st := []) rfl (Nat.le_of_ble_eq_true rfl) dX5_relation_79 ⟨by decide, by decide⟩) hA (fun _ h => h) [1, 2, 3, 4] [0] (wr := [(hb, .inr (5, [.ref hp, .ref ht, .ref hg, .ref ha, .ref hq]))]) rfl rfl (by decide) (by decide) [0, 1, 2, 3, 4] (by decide) (fun _ => rfl) (fun u hu => ?_)
        exact g_iret_w B hr rfl hlocks () (rfl) (trivial) [0, 1, 2, 3, 4] (by decide) rfl dX5_relation_82
    · refine g_iload_n B dX5_relation_23 3 rfl ?_
      refine g_iload_n B dX5_relation_24 2 rfl ?_
      refine g_ncmp_ne (tgt := 38) B b3 b2 rfl rfl (by omega) (by omega) dX5_relation_25 (by decide) (fun c16 => ?_) (fun c16 => ?_)
      rotate_left; · exfalso; omega
      refine g_iload_n B dX5_relation_38 2 rfl ?_
      refine g_callP (g_runS B (PM.met (k_checkSlot_n l (D := D) (cI := cI) (cL := cL) (cZ := cZ) (cQ := cQ) b2 (by first | with_reducible assumption | omega | assumption))) (gPp.pre (av := [.int (nI b2)]) (wc := []) hK hN [] rfl (by decide)) gX5_relation_X5_checkSlot rfl kd_X5_checkSlot ⟨by decide, by decide⟩ (st := []) rfl (Nat.le_of_ble_eq_true rfl) dX5_relation_39 ⟨by decide, by decide⟩) (fun u hu => ?_)
      refine g_iload_n B dX5_relation_42 1 rfl ?_
      refine g_nif_ne (tgt := 50) B b1 rfl (by omega) dX5_relation_43 (by decide) (fun c19 => ?_) (fun c19 => ?_)
      · refine g_aload_n B dX5_relation_50 0 rfl ?_
        refine g_get (C := RX5) (T := TX5) (N := 5) (ci := 5) B hK hin_X5_relation_RX5 0 rfl rfl 4 (by decide) (List.mem_of_getElem? (i := 5) rfl) rfl (v := .ref hq) rfl dX5_relation_51 ?_
        refine g_getN (C := RX3) (T := TX3) (N := 4) (ci := 3) B hK hin_X5_relation_RX3 1 rfl rfl 3 (by decide) hN 8 rfl rfl (v := .int (nI rc)) rfl dX5_relation_54 ?_
        refine g_bipush (v := (6 : Int32)) B dX5_relation_57 (by decide) ?_
        refine g_ncmp_lt (tgt := 72) B rc 6 rfl rfl (by omega) (by omega) dX5_relation_59 (by decide) (fun c21 => ?_) (fun c21 => ?_)
        rotate_left; · exfalso; omega
        refine g_aload_n B dX5_relation_72 0 rfl ?_
        refine g_get (C := RX5) (T := TX5) (N := 5) (ci := 5) B hK hin_X5_relation_RX5 0 rfl rfl 4 (by decide) (List.mem_of_getElem? (i := 5) rfl) rfl (v := .ref hq) rfl dX5_relation_73 ?_
        refine g_iload_n B dX5_relation_76 1 rfl ?_
        refine g_iload_n B dX5_relation_77 2 rfl ?_
        refine g_iload_n B dX5_relation_78 3 rfl ?_
        refine g_callW (w2 := (fun (_ : Unit) => [(hb, .inr (5, [.ref hp, .ref ht, .ref hg, .ref ha, .ref hq])), (hq, .inr (3, [.ref r0, .ref r1, .ref r2, .int (nI (rc + 1))])), (r0, .inl (cI, 6, .inl (fun i => nI ((ks_setR Q rc b1 b2 b3).1 i)))), (r1, .inl (cI, 6, .inl (fun i => nI ((ks_setR Q rc b1 b2 b3).2.1 i)))), (r2, .inl (cI, 6, .inl (fun i => nI ((ks_setR Q rc b1 b2 b3).2.2 i))))])) (g_runV (q0 := 1) (ci := 3) B hK rfl rfl (k_add l (D := D) (cI := cI) (cL := cL) (cZ := cZ) (cQ := cQ) hq r0 r1 r2 Q rc b1 b2 b3 (by first | with_reducible assumption | omega | assumption)) (gPw.pre (av := [.ref hq, .int (nI b1), .int (nI b2), .int (nI b3)]) (wc := [(hq, .inr (3, [.ref r0, .ref r1, .ref r2, .int (nI rc)])), (r0, .inl (cI, 6, .inl (fun i => nI (Q.1 i)))), (r1, .inl (cI, 6, .inl (fun i => nI (Q.2.1 i)))), (r2, .inl (cI, 6, .inl (fun i => nI (Q.2.2 i))))]) hK hN [1, 2, 3, 4] rfl (by decide)) gX5_relation_X3_add rfl rfl kd_X3_add ⟨by decide, by decide⟩ (st := []) rfl (Nat.le_of_ble_eq_true rfl) dX5_relation_79 ⟨by decide, by decide⟩) hA (fun _ h => h) [1, 2, 3, 4] [0] (wr := [(hb, .inr (5, [.ref hp, .ref ht, .ref hg, .ref ha, .ref hq]))]) rfl rfl (by decide) (by decide) [0, 1, 2, 3, 4] (by decide) (fun _ => rfl) (fun u hu => ?_)
        exact g_iret_w B hr rfl hlocks () (rfl) (trivial) [0, 1, 2, 3, 4] (by decide) rfl dX5_relation_82
      · refine g_iload_n B dX5_relation_46 3 rfl ?_
        refine g_callP (g_runS B (PM.met (k_checkSlot_n l (D := D) (cI := cI) (cL := cL) (cZ := cZ) (cQ := cQ) b3 (by first | with_reducible assumption | omega | assumption))) (gPp.pre (av := [.int (nI b3)]) (wc := []) hK hN [] rfl (by decide)) gX5_relation_X5_checkSlot rfl kd_X5_checkSlot ⟨by decide, by decide⟩ (st := []) rfl (Nat.le_of_ble_eq_true rfl) dX5_relation_47 ⟨by decide, by decide⟩) (fun u hu => ?_)
        refine g_aload_n B dX5_relation_50 0 rfl ?_
        refine g_get (C := RX5) (T := TX5) (N := 5) (ci := 5) B hK hin_X5_relation_RX5 0 rfl rfl 4 (by decide) (List.mem_of_getElem? (i := 5) rfl) rfl (v := .ref hq) rfl dX5_relation_51 ?_
        refine g_getN (C := RX3) (T := TX3) (N := 4) (ci := 3) B hK hin_X5_relation_RX3 1 rfl rfl 3 (by decide) hN 8 rfl rfl (v := .int (nI rc)) rfl dX5_relation_54 ?_
        refine g_bipush (v := (6 : Int32)) B dX5_relation_57 (by decide) ?_
        refine g_ncmp_lt (tgt := 72) B rc 6 rfl rfl (by omega) (by omega) dX5_relation_59 (by decide) (fun c25 => ?_) (fun c25 => ?_)
        rotate_left; · exfalso; omega
        refine g_aload_n B dX5_relation_72 0 rfl ?_
        refine g_get (C := RX5) (T := TX5) (N := 5) (ci := 5) B hK hin_X5_relation_RX5 0 rfl rfl 4 (by decide) (List.mem_of_getElem? (i := 5) rfl) rfl (v := .ref hq) rfl dX5_relation_73 ?_
        refine g_iload_n B dX5_relation_76 1 rfl ?_
        refine g_iload_n B dX5_relation_77 2 rfl ?_
        refine g_iload_n B dX5_relation_78 3 rfl ?_
        refine g_callW (w2 := (fun (_ : Unit) => [(hb, .inr (5, [.ref hp, .ref ht, .ref hg, .ref ha, .ref hq])), (hq, .inr (3, [.ref r0, .ref r1, .ref r2, .int (nI (rc + 1))])), (r0, .inl (cI, 6, .inl (fun i => nI ((ks_setR Q rc b1 b2 b3).1 i)))), (r1, .inl (cI, 6, .inl (fun i => nI ((ks_setR Q rc b1 b2 b3).2.1 i)))), (r2, .inl (cI, 6, .inl (fun i => nI ((ks_setR Q rc b1 b2 b3).2.2 i))))])) (g_runV (q0 := 1) (ci := 3) B hK rfl rfl (k_add l (D := D) (cI := cI) (cL := cL) (cZ := cZ) (cQ := cQ) hq r0 r1 r2 Q rc b1 b2 b3 (by first | with_reducible assumption | omega | assumption)) (gPw.pre (av := [.ref hq, .int (nI b1), .int (nI b2), .int (nI b3)]) (wc := [(hq, .inr (3, [.ref r0, .ref r1, .ref r2, .int (nI rc)])), (r0, .inl (cI, 6, .inl (fun i => nI (Q.1 i)))), (r1, .inl (cI, 6, .inl (fun i => nI (Q.2.1 i)))), (r2, .inl (cI, 6, .inl (fun i => nI (Q.2.2 i))))]) hK hN [1, 2, 3, 4] rfl (by decide)) gX5_relation_X3_add rfl rfl kd_X3_add ⟨by decide, by decide⟩ (st := []) rfl (Nat.le_of_ble_eq_true rfl) dX5_relation_79 ⟨by decide, by decide⟩) hA (fun _ h => h) [1, 2, 3, 4] [0] (wr := [(hb, .inr (5, [.ref hp, .ref ht, .ref hg, .ref ha, .ref hq]))]) rfl rfl (by decide) (by decide) [0, 1, 2, 3, 4] (by decide) (fun _ => rfl) (fun u hu => ?_)
        exact g_iret_w B hr rfl hlocks () (rfl) (trivial) [0, 1, 2, 3, 4] (by decide) rfl dX5_relation_82
  · refine g_iload_n B dX5_relation_4 1 rfl ?_
    refine g_iconst (v := (1 : Int32)) B dX5_relation_5 (by decide) ?_
    refine g_ncmp_eq (tgt := 19) B b1 1 rfl rfl (by omega) (by omega) dX5_relation_6 (by decide) (fun c28 => ?_) (fun c28 => ?_)
    rotate_left; · exfalso; omega
    refine g_iload_n B dX5_relation_19 1 rfl ?_
    refine g_nif_ne (tgt := 38) B b1 rfl (by omega) dX5_relation_20 (by decide) (fun c30 => ?_) (fun c30 => ?_)
    · refine g_iload_n B dX5_relation_38 2 rfl ?_
      refine g_callP (g_runS B (PM.met (k_checkSlot_n l (D := D) (cI := cI) (cL := cL) (cZ := cZ) (cQ := cQ) b2 (by first | with_reducible assumption | omega | assumption))) (gPp.pre (av := [.int (nI b2)]) (wc := []) hK hN [] rfl (by decide)) gX5_relation_X5_checkSlot rfl kd_X5_checkSlot ⟨by decide, by decide⟩ (st := []) rfl (Nat.le_of_ble_eq_true rfl) dX5_relation_39 ⟨by decide, by decide⟩) (fun u hu => ?_)
      refine g_iload_n B dX5_relation_42 1 rfl ?_
      refine g_nif_ne (tgt := 50) B b1 rfl (by omega) dX5_relation_43 (by decide) (fun c33 => ?_) (fun c33 => ?_)
      · refine g_aload_n B dX5_relation_50 0 rfl ?_
        refine g_get (C := RX5) (T := TX5) (N := 5) (ci := 5) B hK hin_X5_relation_RX5 0 rfl rfl 4 (by decide) (List.mem_of_getElem? (i := 5) rfl) rfl (v := .ref hq) rfl dX5_relation_51 ?_
        refine g_getN (C := RX3) (T := TX3) (N := 4) (ci := 3) B hK hin_X5_relation_RX3 1 rfl rfl 3 (by decide) hN 8 rfl rfl (v := .int (nI rc)) rfl dX5_relation_54 ?_
        refine g_bipush (v := (6 : Int32)) B dX5_relation_57 (by decide) ?_
        refine g_ncmp_lt (tgt := 72) B rc 6 rfl rfl (by omega) (by omega) dX5_relation_59 (by decide) (fun c35 => ?_) (fun c35 => ?_)
        rotate_left; · exfalso; omega
        refine g_aload_n B dX5_relation_72 0 rfl ?_
        refine g_get (C := RX5) (T := TX5) (N := 5) (ci := 5) B hK hin_X5_relation_RX5 0 rfl rfl 4 (by decide) (List.mem_of_getElem? (i := 5) rfl) rfl (v := .ref hq) rfl dX5_relation_73 ?_
        refine g_iload_n B dX5_relation_76 1 rfl ?_
        refine g_iload_n B dX5_relation_77 2 rfl ?_
        refine g_iload_n B dX5_relation_78 3 rfl ?_
        refine g_callW (w2 := (fun (_ : Unit) => [(hb, .inr (5, [.ref hp, .ref ht, .ref hg, .ref ha, .ref hq])), (hq, .inr (3, [.ref r0, .ref r1, .ref r2, .int (nI (rc + 1))])), (r0, .inl (cI, 6, .inl (fun i => nI ((ks_setR Q rc b1 b2 b3).1 i)))), (r1, .inl (cI, 6, .inl (fun i => nI ((ks_setR Q rc b1 b2 b3).2.1 i)))), (r2, .inl (cI, 6, .inl (fun i => nI ((ks_setR Q rc b1 b2 b3).2.2 i))))])) (g_runV (q0 := 1) (ci := 3) B hK rfl rfl (k_add l (D := D) (cI := cI) (cL := cL) (cZ := cZ) (cQ := cQ) hq r0 r1 r2 Q rc b1 b2 b3 (by first | with_reducible assumption | omega | assumption)) (gPw.pre (av := [.ref hq, .int (nI b1), .int (nI b2), .int (nI b3)]) (wc := [(hq, .inr (3, [.ref r0, .ref r1, .ref r2, .int (nI rc)])), (r0, .inl (cI, 6, .inl (fun i => nI (Q.1 i)))), (r1, .inl (cI, 6, .inl (fun i => nI (Q.2.1 i)))), (r2, .inl (cI, 6, .inl (fun i => nI (Q.2.2 i))))]) hK hN [1, 2, 3, 4] rfl (by decide)) gX5_relation_X3_add rfl rfl kd_X3_add ⟨by decide, by decide⟩ (st := []) rfl (Nat.le_of_ble_eq_true rfl) dX5_relation_79 ⟨by decide, by decide⟩) hA (fun _ h => h) [1, 2, 3, 4] [0] (wr := [(hb, .inr (5, [.ref hp, .ref ht, .ref hg, .ref ha, .ref hq]))]) rfl rfl (by decide) (by decide) [0, 1, 2, 3, 4] (by decide) (fun _ => rfl) (fun u hu => ?_)
        exact g_iret_w B hr rfl hlocks () (rfl) (trivial) [0, 1, 2, 3, 4] (by decide) rfl dX5_relation_82
      · refine g_iload_n B dX5_relation_46 3 rfl ?_
        refine g_callP (g_runS B (PM.met (k_checkSlot_n l (D := D) (cI := cI) (cL := cL) (cZ := cZ) (cQ := cQ) b3 (by first | with_reducible assumption | omega | assumption))) (gPp.pre (av := [.int (nI b3)]) (wc := []) hK hN [] rfl (by decide)) gX5_relation_X5_checkSlot rfl kd_X5_checkSlot ⟨by decide, by decide⟩ (st := []) rfl (Nat.le_of_ble_eq_true rfl) dX5_relation_47 ⟨by decide, by decide⟩) (fun u hu => ?_)
        refine g_aload_n B dX5_relation_50 0 rfl ?_
        refine g_get (C := RX5) (T := TX5) (N := 5) (ci := 5) B hK hin_X5_relation_RX5 0 rfl rfl 4 (by decide) (List.mem_of_getElem? (i := 5) rfl) rfl (v := .ref hq) rfl dX5_relation_51 ?_
        refine g_getN (C := RX3) (T := TX3) (N := 4) (ci := 3) B hK hin_X5_relation_RX3 1 rfl rfl 3 (by decide) hN 8 rfl rfl (v := .int (nI rc)) rfl dX5_relation_54 ?_
        refine g_bipush (v := (6 : Int32)) B dX5_relation_57 (by decide) ?_
        refine g_ncmp_lt (tgt := 72) B rc 6 rfl rfl (by omega) (by omega) dX5_relation_59 (by decide) (fun c39 => ?_) (fun c39 => ?_)
        rotate_left; · exfalso; omega
        refine g_aload_n B dX5_relation_72 0 rfl ?_
        refine g_get (C := RX5) (T := TX5) (N := 5) (ci := 5) B hK hin_X5_relation_RX5 0 rfl rfl 4 (by decide) (List.mem_of_getElem? (i := 5) rfl) rfl (v := .ref hq) rfl dX5_relation_73 ?_
        refine g_iload_n B dX5_relation_76 1 rfl ?_
        refine g_iload_n B dX5_relation_77 2 rfl ?_
        refine g_iload_n B dX5_relation_78 3 rfl ?_
        refine g_callW (w2 := (fun (_ : Unit) => [(hb, .inr (5, [.ref hp, .ref ht, .ref hg, .ref ha, .ref hq])), (hq, .inr (3, [.ref r0, .ref r1, .ref r2, .int (nI (rc + 1))])), (r0, .inl (cI, 6, .inl (fun i => nI ((ks_setR Q rc b1 b2 b3).1 i)))), (r1, .inl (cI, 6, .inl (fun i => nI ((ks_setR Q rc b1 b2 b3).2.1 i)))), (r2, .inl (cI, 6, .inl (fun i => nI ((ks_setR Q rc b1 b2 b3).2.2 i))))])) (g_runV (q0 := 1) (ci := 3) B hK rfl rfl (k_add l (D := D) (cI := cI) (cL := cL) (cZ := cZ) (cQ := cQ) hq r0 r1 r2 Q rc b1 b2 b3 (by first | with_reducible assumption | omega | assumption)) (gPw.pre (av := [.ref hq, .int (nI b1), .int (nI b2), .int (nI b3)]) (wc := [(hq, .inr (3, [.ref r0, .ref r1, .ref r2, .int (nI rc)])), (r0, .inl (cI, 6, .inl (fun i => nI (Q.1 i)))), (r1, .inl (cI, 6, .inl (fun i => nI (Q.2.1 i)))), (r2, .inl (cI, 6, .inl (fun i => nI (Q.2.2 i))))]) hK hN [1, 2, 3, 4] rfl (by decide)) gX5_relation_X3_add rfl rfl kd_X3_add ⟨by decide, by decide⟩ (st := []) rfl (Nat.le_of_ble_eq_true rfl) dX5_relation_79 ⟨by decide, by decide⟩) hA (fun _ h => h) [1, 2, 3, 4] [0] (wr := [(hb, .inr (5, [.ref hp, .ref ht, .ref hg, .ref ha, .ref hq]))]) rfl rfl (by decide) (by decide) [0, 1, 2, 3, 4] (by decide) (fun _ => rfl) (fun u hu => ?_)
        exact g_iret_w B hr rfl hlocks () (rfl) (trivial) [0, 1, 2, 3, 4] (by decide) rfl dX5_relation_82
    · refine g_iload_n B dX5_relation_23 3 rfl ?_
      refine g_iload_n B dX5_relation_24 2 rfl ?_
      refine g_ncmp_ne (tgt := 38) B b3 b2 rfl rfl (by omega) (by omega) dX5_relation_25 (by decide) (fun c42 => ?_) (fun c42 => ?_)
      rotate_left; · exfalso; omega
      refine g_iload_n B dX5_relation_38 2 rfl ?_
      refine g_callP (g_runS B (PM.met (k_checkSlot_n l (D := D) (cI := cI) (cL := cL) (cZ := cZ) (cQ := cQ) b2 (by first | with_reducible assumption | omega | assumption))) (gPp.pre (av := [.int (nI b2)]) (wc := []) hK hN [] rfl (by decide)) gX5_relation_X5_checkSlot rfl kd_X5_checkSlot ⟨by decide, by decide⟩ (st := []) rfl (Nat.le_of_ble_eq_true rfl) dX5_relation_39 ⟨by decide, by decide⟩) (fun u hu => ?_)
      refine g_iload_n B dX5_relation_42 1 rfl ?_
      refine g_nif_ne (tgt := 50) B b1 rfl (by omega) dX5_relation_43 (by decide) (fun c45 => ?_) (fun c45 => ?_)
      · refine g_aload_n B dX5_relation_50 0 rfl ?_
        refine g_get (C := RX5) (T := TX5) (N := 5) (ci := 5) B hK hin_X5_relation_RX5 0 rfl rfl 4 (by decide) (List.mem_of_getElem? (i := 5) rfl) rfl (v := .ref hq) rfl dX5_relation_51 ?_
        refine g_getN (C := RX3) (T := TX3) (N := 4) (ci := 3) B hK hin_X5_relation_RX3 1 rfl rfl 3 (by decide) hN 8 rfl rfl (v := .int (nI rc)) rfl dX5_relation_54 ?_
        refine g_bipush (v := (6 : Int32)) B dX5_relation_57 (by decide) ?_
        refine g_ncmp_lt (tgt := 72) B rc 6 rfl rfl (by omega) (by omega) dX5_relation_59 (by decide) (fun c47 => ?_) (fun c47 => ?_)
        rotate_left; · exfalso; omega
        refine g_aload_n B dX5_relation_72 0 rfl ?_
        refine g_get (C := RX5) (T := TX5) (N := 5) (ci := 5) B hK hin_X5_relation_RX5 0 rfl rfl 4 (by decide) (List.mem_of_getElem? (i := 5) rfl) rfl (v := .ref hq) rfl dX5_relation_73 ?_
        refine g_iload_n B dX5_relation_76 1 rfl ?_
        refine g_iload_n B dX5_relation_77 2 rfl ?_
        refine g_iload_n B dX5_relation_78 3 rfl ?_
        refine g_callW (w2 := (fun (_ : Unit) => [(hb, .inr (5, [.ref hp, .ref ht, .ref hg, .ref ha, .ref hq])), (hq, .inr (3, [.ref r0, .ref r1, .ref r2, .int (nI (rc + 1))])), (r0, .inl (cI, 6, .inl (fun i => nI ((ks_setR Q rc b1 b2 b3).1 i)))), (r1, .inl (cI, 6, .inl (fun i => nI ((ks_setR Q rc b1 b2 b3).2.1 i)))), (r2, .inl (cI, 6, .inl (fun i => nI ((ks_setR Q rc b1 b2 b3).2.2 i))))])) (g_runV (q0 := 1) (ci := 3) B hK rfl rfl (k_add l (D := D) (cI := cI) (cL := cL) (cZ := cZ) (cQ := cQ) hq r0 r1 r2 Q rc b1 b2 b3 (by first | with_reducible assumption | omega | assumption)) (gPw.pre (av := [.ref hq, .int (nI b1), .int (nI b2), .int (nI b3)]) (wc := [(hq, .inr (3, [.ref r0, .ref r1, .ref r2, .int (nI rc)])), (r0, .inl (cI, 6, .inl (fun i => nI (Q.1 i)))), (r1, .inl (cI, 6, .inl (fun i => nI (Q.2.1 i)))), (r2, .inl (cI, 6, .inl (fun i => nI (Q.2.2 i))))]) hK hN [1, 2, 3, 4] rfl (by decide)) gX5_relation_X3_add rfl rfl kd_X3_add ⟨by decide, by decide⟩ (st := []) rfl (Nat.le_of_ble_eq_true rfl) dX5_relation_79 ⟨by decide, by decide⟩) hA (fun _ h => h) [1, 2, 3, 4] [0] (wr := [(hb, .inr (5, [.ref hp, .ref ht, .ref hg, .ref ha, .ref hq]))]) rfl rfl (by decide) (by decide) [0, 1, 2, 3, 4] (by decide) (fun _ => rfl) (fun u hu => ?_)
        exact g_iret_w B hr rfl hlocks () (rfl) (trivial) [0, 1, 2, 3, 4] (by decide) rfl dX5_relation_82
      · refine g_iload_n B dX5_relation_46 3 rfl ?_
        refine g_callP (g_runS B (PM.met (k_checkSlot_n l (D := D) (cI := cI) (cL := cL) (cZ := cZ) (cQ := cQ) b3 (by first | with_reducible assumption | omega | assumption))) (gPp.pre (av := [.int (nI b3)]) (wc := []) hK hN [] rfl (by decide)) gX5_relation_X5_checkSlot rfl kd_X5_checkSlot ⟨by decide, by decide⟩ (st := []) rfl (Nat.le_of_ble_eq_true rfl) dX5_relation_47 ⟨by decide, by decide⟩) (fun u hu => ?_)
        refine g_aload_n B dX5_relation_50 0 rfl ?_
        refine g_get (C := RX5) (T := TX5) (N := 5) (ci := 5) B hK hin_X5_relation_RX5 0 rfl rfl 4 (by decide) (List.mem_of_getElem? (i := 5) rfl) rfl (v := .ref hq) rfl dX5_relation_51 ?_
        refine g_getN (C := RX3) (T := TX3) (N := 4) (ci := 3) B hK hin_X5_relation_RX3 1 rfl rfl 3 (by decide) hN 8 rfl rfl (v := .int (nI rc)) rfl dX5_relation_54 ?_
        refine g_bipush (v := (6 : Int32)) B dX5_relation_57 (by decide) ?_
        refine g_ncmp_lt (tgt := 72) B rc 6 rfl rfl (by omega) (by omega) dX5_relation_59 (by decide) (fun c51 => ?_) (fun c51 => ?_)
        rotate_left; · exfalso; omega
        refine g_aload_n B dX5_relation_72 0 rfl ?_
        refine g_get (C := RX5) (T := TX5) (N := 5) (ci := 5) B hK hin_X5_relation_RX5 0 rfl rfl 4 (by decide) (List.mem_of_getElem? (i := 5) rfl) rfl (v := .ref hq) rfl dX5_relation_73 ?_
        refine g_iload_n B dX5_relation_76 1 rfl ?_
        refine g_iload_n B dX5_relation_77 2 rfl ?_
        refine g_iload_n B dX5_relation_78 3 rfl ?_
        refine g_callW (w2 := (fun (_ : Unit) => [(hb, .inr (5, [.ref hp, .ref ht, .ref hg, .ref ha, .ref hq])), (hq, .inr (3, [.ref r0, .ref r1, .ref r2, .int (nI (rc + 1))])), (r0, .inl (cI, 6, .inl (fun i => nI ((ks_setR Q rc b1 b2 b3).1 i)))), (r1, .inl (cI, 6, .inl (fun i => nI ((ks_setR Q rc b1 b2 b3).2.1 i)))), (r2, .inl (cI, 6, .inl (fun i => nI ((ks_setR Q rc b1 b2 b3).2.2 i))))])) (g_runV (q0 := 1) (ci := 3) B hK rfl rfl (k_add l (D := D) (cI := cI) (cL := cL) (cZ := cZ) (cQ := cQ) hq r0 r1 r2 Q rc b1 b2 b3 (by first | with_reducible assumption | omega | assumption)) (gPw.pre (av := [.ref hq, .int (nI b1), .int (nI b2), .int (nI b3)]) (wc := [(hq, .inr (3, [.ref r0, .ref r1, .ref r2, .int (nI rc)])), (r0, .inl (cI, 6, .inl (fun i => nI (Q.1 i)))), (r1, .inl (cI, 6, .inl (fun i => nI (Q.2.1 i)))), (r2, .inl (cI, 6, .inl (fun i => nI (Q.2.2 i))))]) hK hN [1, 2, 3, 4] rfl (by decide)) gX5_relation_X3_add rfl rfl kd_X3_add ⟨by decide, by decide⟩ (st := []) rfl (Nat.le_of_ble_eq_true rfl) dX5_relation_79 ⟨by decide, by decide⟩) hA (fun _ h => h) [1, 2, 3, 4] [0] (wr := [(hb, .inr (5, [.ref hp, .ref ht, .ref hg, .ref ha, .ref hq]))]) rfl rfl (by decide) (by decide) [0, 1, 2, 3, 4] (by decide) (fun _ => rfl) (fun u hu => ?_)
        exact g_iret_w B hr rfl hlocks () (rfl) (trivial) [0, 1, 2, 3, 4] (by decide) rfl dX5_relation_82

