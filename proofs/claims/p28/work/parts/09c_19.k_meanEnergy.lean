set_option maxHeartbeats 400000 in
set_option maxRecDepth 100000 in
theorem k_meanEnergy (l : Launch) {D : va_G} {cI cL cZ cQ : ClassId} (hb : Nat) (hp : Nat) (ht : Nat) (hg : Nat) (ha : Nat) (hq : Nat) (P : Pg) (a0 : Nat) (a1 : Nat) (a2 : Nat) (a3 : Nat) (n : Nat) (S : Int64) (f0 : Nat → Int32) (f1 : Nat → Int32) (F : Nat → Int64) (mu : Nat → Nat) (t : Nat → Nat) (hn : n ≤ 40) (hAO : ks_AO P t n f0 f1 F) (hS : ks_SK n S) (hmu : ∀ i, mu i < 1000) (he : ks_we (ks_F P t) S mu n < 154) (hk : ks_bc S < 17) : PM l yX5_meanEnergy wsX5_meanEnergy ({ frames := 5, cells := 0, slots := 0, locals := 116 } : Room) D (gTys cI cL cZ cQ) [.ref hb] [(hb, .inr (5, [.ref hp, .ref ht, .ref hg, .ref ha, .ref hq])), (ha, .inr (0, [.ref a0, .ref a1, .ref a2, .ref a3, .int (nI n), .long S])), (a0, .inl (cI, 41, .inl f0)), (a1, .inl (cI, 41, .inl f1)), (a2, .inl (cI, 41, .inl (fun i => nI (mu i)))), (a3, .inl (cL, 41, .inr (.inl F)))] (fun (_ : Unit) => True) (fun (_ : Unit) => some (.double (ks_me (ks_we (ks_F P t) S mu n) (ks_bc S)))) := by
  refine PM.ofG cX5_meanEnergy 2 (some .double) (by decide +kernel) rfl (Nat.le_of_ble_eq_true rfl) ?_
  intro p e s m below meth c B hr hlocks hname hK hN
  refine g_aload_n B dX5_meanEnergy_0 0 rfl ?_
  refine g_get (C := RX5) (T := TX5) (N := 5) (ci := 5) B hK hin_X5_meanEnergy_RX5 0 rfl rfl 3 (by decide) (List.mem_of_getElem? (i := 1) rfl) rfl (v := .ref ha) rfl dX5_meanEnergy_1 ?_
  refine g_getN (C := RX0) (T := TX0) (N := 6) (ci := 0) B hK hin_X5_meanEnergy_RX0 1 rfl rfl 5 (by decide) hN 7 rfl rfl (v := .long S) rfl dX5_meanEnergy_4 ?_
  refine g_callP (g_runS B (PM.met (k_bitCount l (D := D) (cI := cI) (cL := cL) (cZ := cZ) (cQ := cQ) S )) (gPp.pre (av := [.long S]) (wc := []) hK hN [] rfl (by decide)) gX5_meanEnergy_J13_bitCount_95d88 rfl kd_J13_bitCount_95d88 ⟨by decide, by decide⟩ (st := []) rfl (Nat.le_of_ble_eq_true rfl) dX5_meanEnergy_7 ⟨by decide, by decide⟩) (fun u hu => ?_)
  refine g_istore_n (lv' := [(0, .ref hb), (1, .int (nI (ks_bc S)))]) B dX5_meanEnergy_10 rfl (by decide) [1, 0] rfl ?_
  refine g_iload_n B dX5_meanEnergy_11 1 rfl ?_
  have b2_0 := ks_bc_le S
  refine g_nif_ne (tgt := 17) B (ks_bc S) rfl (by omega) dX5_meanEnergy_12 (by decide) (fun c3 => ?_) (fun c3 => ?_)
  · refine g_aload_n B dX5_meanEnergy_17 0 rfl ?_
    refine g_get (C := RX5) (T := TX5) (N := 5) (ci := 5) B hK hin_X5_meanEnergy_RX5 0 rfl rfl 3 (by decide) (List.mem_of_getElem? (i := 1) rfl) rfl (v := .ref ha) rfl dX5_meanEnergy_18 ?_
    refine g_callP (g_runV (q0 := 1) (ci := 0) B hK rfl rfl (PM.met (k_wholeEnergy l (D := D) (cI := cI) (cL := cL) (cZ := cZ) (cQ := cQ) ha a0 a1 a2 a3 n S F mu (by first | with_reducible assumption | omega | assumption) (by first | with_reducible assumption | omega | assumption))) (gPp.pre (av := [.ref ha]) (wc := [(ha, .inr (0, [.ref a0, .ref a1, .ref a2, .ref a3, .int (nI n), .long S])), (a2, .inl (cI, 41, .inl (fun i => nI (mu i)))), (a3, .inl (cL, 41, .inr (.inl F)))]) hK hN [1, 4, 5] rfl (by decide)) gX5_meanEnergy_X0_wholeEnergy rfl rfl kd_X0_wholeEnergy ⟨by decide, by decide⟩ (st := []) rfl (Nat.le_of_ble_eq_true rfl) dX5_meanEnergy_21 ⟨by decide, by decide⟩) (fun u hu => ?_)
    refine g_i2d B dX5_meanEnergy_24 ?_
    refine g_iload_n B dX5_meanEnergy_25 1 rfl ?_
    refine g_i2d B dX5_meanEnergy_26 ?_
    refine g_ddiv (v := (ks_me (ks_we (ks_F P t) S mu n) (ks_bc S))) B dX5_meanEnergy_27 (by rw [ks_we_cong hn hS (ao_F hAO)]; unfold ks_me; rw [if_neg (by omega)]) (by unfold ks_me; rw [if_neg (by omega)]; exact fp_tab _ hk (by omega) _ he) ?_
    exact g_dret_p B hr hlocks () (rfl) (trivial) dX5_meanEnergy_28
  · refine g_dconst0 B dX5_meanEnergy_15 ?_
    exact g_dret_p B hr hlocks () (by unfold ks_me; rw [if_pos (by omega)]) (trivial) dX5_meanEnergy_16

