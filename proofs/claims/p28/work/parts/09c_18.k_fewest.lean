set_option maxHeartbeats 400000 in
set_option maxRecDepth 100000 in
theorem k_fewest (l : Launch) {D : va_G} {cI cL cZ cQ : ClassId} (hb : Nat) (hp : Nat) (ht : Nat) (hg : Nat) (ha : Nat) (hq : Nat) (P : Pg) (a0 : Nat) (a1 : Nat) (a2 : Nat) (a3 : Nat) (n : Nat) (S : Int64) (f0 : Nat → Int32) (f1 : Nat → Int32) (F : Nat → Int64) (t : Nat → Nat) (hn : n ≤ 40) (hAO : ks_AO P t n f0 f1 F) : PM l yX5_fewest wsX5_fewest ({ frames := 14, cells := 0, slots := 0, locals := 372 } : Room) D (gTys cI cL cZ cQ) [.ref hb] [(hb, .inr (5, [.ref hp, .ref ht, .ref hg, .ref ha, .ref hq])), (ha, .inr (0, [.ref a0, .ref a1, .ref a2, .ref a3, .int (nI n), .long S])), (a3, .inl (cL, 41, .inr (.inl F)))] (fun (_ : Unit) => True) (fun (_ : Unit) => some (.int (ks_fw P t n))) := by
  refine PM.ofG cX5_fewest 3 (some .int) (by decide +kernel) rfl (Nat.le_of_ble_eq_true rfl) ?_
  intro p e s m below meth c B hr hlocks hname hK hN
  refine g_aload_n B dX5_fewest_0 0 rfl ?_
  refine g_get (C := RX5) (T := TX5) (N := 5) (ci := 5) B hK hin_X5_fewest_RX5 0 rfl rfl 3 (by decide) (List.mem_of_getElem? (i := 1) rfl) rfl (v := .ref ha) rfl dX5_fewest_1 ?_
  refine g_getN (C := RX0) (T := TX0) (N := 6) (ci := 0) B hK hin_X5_fewest_RX0 1 rfl rfl 4 (by decide) hN 4 rfl rfl (v := .int (nI n)) rfl dX5_fewest_4 ?_
  refine g_bipush (v := (12 : Int32)) B dX5_fewest_7 (by decide) ?_
  refine g_ncmp_le (tgt := 14) B n 12 rfl rfl (by omega) (by omega) dX5_fewest_9 (by decide) (fun c2 => ?_) (fun c2 => ?_)
  · refine g_aload_n B dX5_fewest_14 0 rfl ?_
    refine g_get (C := RX5) (T := TX5) (N := 5) (ci := 5) B hK hin_X5_fewest_RX5 0 rfl rfl 3 (by decide) (List.mem_of_getElem? (i := 1) rfl) rfl (v := .ref ha) rfl dX5_fewest_15 ?_
    refine g_aload_n B dX5_fewest_18 0 rfl ?_
    refine g_get (C := RX5) (T := TX5) (N := 5) (ci := 5) B hK hin_X5_fewest_RX5 0 rfl rfl 3 (by decide) (List.mem_of_getElem? (i := 1) rfl) rfl (v := .ref ha) rfl dX5_fewest_19 ?_
    refine g_callP (g_runV (q0 := 1) (ci := 0) B hK rfl rfl (PM.met (k_allKnown l (D := D) (cI := cI) (cL := cL) (cZ := cZ) (cQ := cQ) ha a0 a1 a2 a3 n S (by first | with_reducible assumption | omega | assumption))) (gPp.pre (av := [.ref ha]) (wc := [(ha, .inr (0, [.ref a0, .ref a1, .ref a2, .ref a3, .int (nI n), .long S]))]) hK hN [1] rfl (by decide)) gX5_fewest_X0_allKnown rfl rfl kd_X0_allKnown ⟨by decide, by decide⟩ (st := [.ref ha]) rfl (Nat.le_of_ble_eq_true rfl) dX5_fewest_22 ⟨by decide, by decide⟩) (fun u hu => ?_)
    refine g_callP (g_runV (q0 := 1) (ci := 0) B hK rfl rfl (PM.met (k_foundBy l (D := D) (cI := cI) (cL := cL) (cZ := cZ) (cQ := cQ) ha a0 a1 a2 a3 n S F (lShl 1 (nI n) - 1) )) (gPp.pre (av := [.ref ha, .long (lShl 1 (nI n) - 1)]) (wc := [(ha, .inr (0, [.ref a0, .ref a1, .ref a2, .ref a3, .int (nI n), .long S])), (a3, .inl (cL, 41, .inr (.inl F)))]) hK hN [1, 2] rfl (by decide)) gX5_fewest_X0_foundBy rfl rfl kd_X0_foundBy ⟨by decide, by decide⟩ (st := []) rfl (Nat.le_of_ble_eq_true rfl) dX5_fewest_25 ⟨by decide, by decide⟩) (fun u hu => ?_)
    refine g_ldc2 (v := (16777215 : Int64)) B dX5_fewest_28 (List.mem_of_getElem? (i := 2) rfl) ?_
    refine g_land (v := ((ks_fb F (lShl 1 (nI n) - 1) 41) &&& (16777215 : Int64))) B dX5_fewest_31 (rfl) ?_
    refine g_lstore_n (lv' := [(0, .ref hb), (1, .long ((ks_fb F (lShl 1 (nI n) - 1) 41) &&& (16777215 : Int64)))]) B dX5_fewest_32 rfl (by decide) [1, 0] rfl ?_
    refine g_aload_n B dX5_fewest_33 0 rfl ?_
    refine g_get (C := RX5) (T := TX5) (N := 5) (ci := 5) B hK hin_X5_fewest_RX5 0 rfl rfl 3 (by decide) (List.mem_of_getElem? (i := 1) rfl) rfl (v := .ref ha) rfl dX5_fewest_34 ?_
    refine g_getN (C := RX0) (T := TX0) (N := 6) (ci := 0) B hK hin_X5_fewest_RX0 1 rfl rfl 3 (by decide) hN 6 rfl rfl (v := .ref a3) rfl dX5_fewest_37 ?_
    refine g_aload_n B dX5_fewest_40 0 rfl ?_
    refine g_get (C := RX5) (T := TX5) (N := 5) (ci := 5) B hK hin_X5_fewest_RX5 0 rfl rfl 3 (by decide) (List.mem_of_getElem? (i := 1) rfl) rfl (v := .ref ha) rfl dX5_fewest_41 ?_
    refine g_getN (C := RX0) (T := TX0) (N := 6) (ci := 0) B hK hin_X5_fewest_RX0 1 rfl rfl 4 (by decide) hN 4 rfl rfl (v := .int (nI n)) rfl dX5_fewest_44 ?_
    refine g_iconst (v := (0 : Int32)) B dX5_fewest_47 (by decide) ?_
    refine g_lload_n B dX5_fewest_48 1 rfl ?_
    refine g_iconst (v := (0 : Int32)) B dX5_fewest_49 (by decide) ?_
    refine g_aload_n B dX5_fewest_50 0 rfl ?_
    refine g_get (C := RX5) (T := TX5) (N := 5) (ci := 5) B hK hin_X5_fewest_RX5 0 rfl rfl 3 (by decide) (List.mem_of_getElem? (i := 1) rfl) rfl (v := .ref ha) rfl dX5_fewest_51 ?_
    refine g_getN (C := RX0) (T := TX0) (N := 6) (ci := 0) B hK hin_X5_fewest_RX0 1 rfl rfl 4 (by decide) hN 4 rfl rfl (v := .int (nI n)) rfl dX5_fewest_54 ?_
    refine g_callP (g_runS B (PM.met (k_ff_12 l (D := D) (cI := cI) (cL := cL) (cZ := cZ) (cQ := cQ) a3 F n 0 ((ks_fb F (lShl 1 (nI n) - 1) 41) &&& (16777215 : Int64)) 0 n (by first | with_reducible assumption | omega | assumption) (by first | with_reducible assumption | omega | assumption) (by first | with_reducible assumption | omega | assumption) (by first | with_reducible assumption | omega | assumption) (by first | with_reducible assumption | omega | assumption))) (gPp.pre (av := [.ref a3, .int (nI n), .int (0 : Int32), .long ((ks_fb F (lShl 1 (nI n) - 1) 41) &&& (16777215 : Int64)), .int (0 : Int32), .int (nI n)]) (wc := [(a3, .inl (cL, 41, .inr (.inl F)))]) hK hN [2] rfl (by decide)) gX5_fewest_X5_fewestFrom rfl kd_X5_fewestFrom ⟨by decide, by decide⟩ (st := []) rfl (Nat.le_of_ble_eq_true rfl) dX5_fewest_57 ⟨by decide, by decide⟩) (fun u hu => ?_)
    refine g_eqi (y := ks_fw P t n) (by unfold ks_fw; rw [if_neg (by omega), ks_ff_cong (ao_F hAO)]; show nI (ks_ff (ks_F P t) n 12 0 (ks_fb F (ks_all n) 41 &&& 16777215) 0 n) = _; rw [ks_fbS (ks_SK_all (by omega)) (ao_F hAO)]) ?_
    exact g_iret_p B hr rfl hlocks () (rfl) (trivial) dX5_fewest_60
  · refine g_iconst (v := (-1 : Int32)) B dX5_fewest_12 (by decide) ?_
    refine g_eqi (y := ks_fw P t n) (by unfold ks_fw; rw [if_pos (by omega)]) ?_
    exact g_iret_p B hr rfl hlocks () (rfl) (trivial) dX5_fewest_13

