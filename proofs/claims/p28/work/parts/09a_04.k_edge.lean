set_option maxHeartbeats 400000 in
set_option maxRecDepth 100000 in
theorem k_edge (l : Launch) {D : va_G} {cI cL cZ cQ : ClassId} (hb : Nat) (hp : Nat) (ht : Nat) (hg : Nat) (ha : Nat) (hq : Nat) (p0 : Nat) (p1 : Nat) (p2 : Nat) (p3 : Nat) (p4 : Nat) (P : Pg) (t0 : Nat) (fp : Nat → Int32) (ts : Int32) (tr : Int32) (tf : Int64) (ca : Nat) (k : Nat) (hW : ks_WP P) (hca : ca < 10000) (hk : k < ks_st P ca) : WM l yX5_edge wsX5_edge ({ frames := 3, cells := 0, slots := 0, locals := 69 } : Room) D (gTys cI cL cZ cQ) [.ref hb, .int (nI ca), .int (nI k)] [(hb, .inr (5, [.ref hp, .ref ht, .ref hg, .ref ha, .ref hq])), (hp, .inr (2, [.ref p0, .ref p1, .ref p2, .ref p3, .ref p4])), (p0, .inl (cI, 12, .inl (fun i => nI (P.1 i)))), (p1, .inl (cI, 12, .inl (fun i => nI (P.2.1 i)))), (p2, .inl (cI, 12, .inl (fun i => nI (P.2.2.1 i)))), (p3, .inl (cI, 24, .inl (fun i => ks_tI (P.2.2.2.1 i)))), (p4, .inl (cZ, 12, .inl (fun i => bI (P.2.2.2.2 i)))), (ht, .inr (4, [.ref t0, .int ts, .int tr, .long tf])), (t0, .inl (cI, 30, .inl fp))] (fun (fp2 : Nat → Int32) => True) (fun (fp2 : Nat → Int32) => some (.int (nI (ks_ek P ca k)))) (fun (fp2 : Nat → Int32) => [(hb, .inr (5, [.ref hp, .ref ht, .ref hg, .ref ha, .ref hq])), (hp, .inr (2, [.ref p0, .ref p1, .ref p2, .ref p3, .ref p4])), (p0, .inl (cI, 12, .inl (fun i => nI (P.1 i)))), (p1, .inl (cI, 12, .inl (fun i => nI (P.2.1 i)))), (p2, .inl (cI, 12, .inl (fun i => nI (P.2.2.1 i)))), (p3, .inl (cI, 24, .inl (fun i => ks_tI (P.2.2.2.1 i)))), (p4, .inl (cZ, 12, .inl (fun i => bI (P.2.2.2.2 i)))), (ht, .inr (4, [.ref t0, .int (nI (ks_st P ca)), .int (nI (ks_rs P ca)), .long (ks_fd P ca)])), (t0, .inl (cI, 30, .inl fp2))]) := by
  refine WM.ofG cX5_edge 3 (some .int) (by decide +kernel) rfl (Nat.le_of_ble_eq_true rfl) ?_
  intro p e s m below meth c A hA B hr hlocks hname hK hN
  have w1 := ks_st_le P ca
  refine g_iload_n B dX5_edge_0 1 rfl ?_
  refine g_callP (g_runS B (PM.met (k_checkCase_n l (D := D) (cI := cI) (cL := cL) (cZ := cZ) (cQ := cQ) ca (by first | with_reducible assumption | omega | assumption))) (gPp.pre (av := [.int (nI ca)]) (wc := []) hK hN [] rfl (by decide)) gX5_edge_X5_checkCase rfl kd_X5_checkCase ⟨by decide, by decide⟩ (st := []) rfl (Nat.le_of_ble_eq_true rfl) dX5_edge_1 ⟨by decide, by decide⟩) (fun u hu => ?_)
  refine g_aload_n B dX5_edge_4 0 rfl ?_
  refine g_get (C := RX5) (T := TX5) (N := 5) (ci := 5) B hK hin_X5_edge_RX5 0 rfl rfl 0 (by decide) (List.mem_of_getElem? (i := 3) rfl) rfl (v := .ref hp) rfl dX5_edge_5 ?_
  refine g_iload_n B dX5_edge_8 1 rfl ?_
  refine g_aload_n B dX5_edge_9 0 rfl ?_
  refine g_get (C := RX5) (T := TX5) (N := 5) (ci := 5) B hK hin_X5_edge_RX5 0 rfl rfl 1 (by decide) (List.mem_of_getElem? (i := 4) rfl) rfl (v := .ref ht) rfl dX5_edge_10 ?_
  refine g_callW (w2 := (fun (fp2_2 : Nat → Int32) => [(hb, .inr (5, [.ref hp, .ref ht, .ref hg, .ref ha, .ref hq])), (hp, .inr (2, [.ref p0, .ref p1, .ref p2, .ref p3, .ref p4])), (p0, .inl (cI, 12, .inl (fun i => nI (P.1 i)))), (p1, .inl (cI, 12, .inl (fun i => nI (P.2.1 i)))), (p2, .inl (cI, 12, .inl (fun i => nI (P.2.2.1 i)))), (p3, .inl (cI, 24, .inl (fun i => ks_tI (P.2.2.2.1 i)))), (p4, .inl (cZ, 12, .inl (fun i => bI (P.2.2.2.2 i)))), (ht, .inr (4, [.ref t0, .int (nI (ks_st P ca)), .int (nI (ks_rs P ca)), .long (ks_fd P ca)])), (t0, .inl (cI, 30, .inl fp2_2))])) (g_runV (q0 := 1) (ci := 2) B hK rfl rfl (k_follow l (D := D) (cI := cI) (cL := cL) (cZ := cZ) (cQ := cQ) hp p0 p1 p2 p3 p4 P ht t0 fp ts tr tf ca (by first | with_reducible assumption | omega | assumption) (by first | with_reducible assumption | omega | assumption)) (gPw.pre (av := [.ref hp, .int (nI ca), .ref ht]) (wc := [(hp, .inr (2, [.ref p0, .ref p1, .ref p2, .ref p3, .ref p4])), (p0, .inl (cI, 12, .inl (fun i => nI (P.1 i)))), (p1, .inl (cI, 12, .inl (fun i => nI (P.2.1 i)))), (p2, .inl (cI, 12, .inl (fun i => nI (P.2.2.1 i)))), (p3, .inl (cI, 24, .inl (fun i => ks_tI (P.2.2.2.1 i)))), (p4, .inl (cZ, 12, .inl (fun i => bI (P.2.2.2.2 i)))), (ht, .inr (4, [.ref t0, .int ts, .int tr, .long tf])), (t0, .inl (cI, 30, .inl fp))]) hK hN [1, 2, 3, 4, 5, 6, 7, 8] rfl (by decide)) gX5_edge_X2_follow rfl rfl kd_X2_follow ⟨by decide, by decide⟩ (st := []) rfl (Nat.le_of_ble_eq_true rfl) dX5_edge_13 ⟨by decide, by decide⟩) hA (fun _ h => h) [1, 2, 3, 4, 5, 6, 7, 8] [0] (wr := [(hb, .inr (5, [.ref hp, .ref ht, .ref hg, .ref ha, .ref hq]))]) rfl rfl (by decide) (by decide) [0, 1, 2, 3, 4, 5, 6, 7, 8] (by decide) (fun _ => rfl) (fun u hu => ?_)
  obtain ⟨fp2_2, e9⟩ : ∃ z, z = u := ⟨_, rfl⟩; subst e9
  try dsimp only at hu ⊢
  have hu2 := hu
  refine g_iload_n B dX5_edge_16 2 rfl ?_
  refine g_nif_lt (tgt := 37) B k rfl (by omega) dX5_edge_17 (by decide) ?_
  refine g_iload_n B dX5_edge_20 2 rfl ?_
  refine g_aload_n B dX5_edge_21 0 rfl ?_
  refine g_get (C := RX5) (T := TX5) (N := 5) (ci := 5) B hK hin_X5_edge_RX5 0 rfl rfl 1 (by decide) (List.mem_of_getElem? (i := 4) rfl) rfl (v := .ref ht) rfl dX5_edge_22 ?_
  refine g_getN (C := RX4) (T := TX4) (N := 4) (ci := 4) B hK hin_X5_edge_RX4 7 rfl rfl 1 (by decide) hN 13 rfl rfl (v := .int (nI (ks_st P ca))) rfl dX5_edge_25 ?_
  refine g_ncmp_ge (tgt := 37) B k (ks_st P ca) rfl rfl (by omega) (by omega) dX5_edge_28 (by decide) (fun c4 => ?_) (fun c4 => ?_)
  · exfalso; omega
  refine g_iload_n B dX5_edge_31 2 rfl ?_
  refine g_bipush (v := (30 : Int32)) B dX5_edge_32 (by decide) ?_
  refine g_ncmp_lt (tgt := 47) B k 30 rfl rfl (by omega) (by omega) dX5_edge_34 (by decide) (fun c6 => ?_) (fun c6 => ?_)
  rotate_left; · exfalso; omega
  refine g_aload_n B dX5_edge_47 0 rfl ?_
  refine g_get (C := RX5) (T := TX5) (N := 5) (ci := 5) B hK hin_X5_edge_RX5 0 rfl rfl 1 (by decide) (List.mem_of_getElem? (i := 4) rfl) rfl (v := .ref ht) rfl dX5_edge_48 ?_
  refine g_getN (C := RX4) (T := TX4) (N := 4) (ci := 4) B hK hin_X5_edge_RX4 7 rfl rfl 0 (by decide) hN 14 rfl rfl (v := .ref t0) rfl dX5_edge_51 ?_
  refine g_iload_n B dX5_edge_54 2 rfl ?_
  refine g_iald B hK 8 0 rfl rfl k rfl (by omega) (by omega) (v := (fp2_2 k)) rfl dX5_edge_55 ?_
  refine g_eqi (y := nI (ks_ek P ca k)) (hu2 k hk) ?_
  exact g_iret_w B hr rfl hlocks fp2_2 (rfl) (trivial) [0, 1, 2, 3, 4, 5, 6, 7, 8] (by decide) rfl dX5_edge_56

