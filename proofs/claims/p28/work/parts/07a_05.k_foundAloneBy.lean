set_option maxHeartbeats 4000000 in
set_option maxRecDepth 100000 in
theorem k_foundAloneBy (l : Launch) {D : va_G} {cI cL cZ cQ : ClassId} (ha : Nat) (a0 : Nat) (a1 : Nat) (a2 : Nat) (a3 : Nat) (n : Nat) (S : Int64) (F : Nat → Int64) (T : Int64) (k : Nat) (hk : k < 41) : PM l yX0_foundAloneBy wsX0_foundAloneBy ({ frames := 2, cells := 0, slots := 0, locals := 47 } : Room) D (gTys cI cL cZ cQ) [.ref ha, .int (nI k), .long T] [(ha, .inr (0, [.ref a0, .ref a1, .ref a2, .ref a3, .int (nI n), .long S])), (a3, .inl (cL, 41, .inr (.inl F)))] (fun (_ : Unit) => True) (fun (_ : Unit) => some (.long (ks_al F k T))) := by
  refine PM.ofG cX0_foundAloneBy 4 (some .long) (by decide +kernel) rfl (Nat.le_of_ble_eq_true rfl) ?_
  intro p e s m below meth c B hr hlocks hname hK hN
  refine g_aload_n B dX0_foundAloneBy_0 0 rfl ?_
  refine g_get (C := RX0) (T := TX0) (N := 6) (ci := 0) B hK hin_X0_foundAloneBy_RX0 0 rfl rfl 3 (by decide) (List.mem_of_getElem? (i := 1) rfl) rfl (v := .ref a3) rfl dX0_foundAloneBy_1 ?_
  refine g_iload_n B dX0_foundAloneBy_4 1 rfl ?_
  refine g_lald B hK 1 1 rfl rfl k rfl (by omega) (by omega) (v := (F k)) rfl dX0_foundAloneBy_5 ?_
  refine g_aload_n B dX0_foundAloneBy_6 0 rfl ?_
  refine g_lload_n B dX0_foundAloneBy_7 2 rfl ?_
  refine g_iload_n B dX0_foundAloneBy_8 1 rfl ?_
  refine g_callP (g_runSN B hN (PM.met (k_bit l (D := D) (cI := cI) (cL := cL) (cZ := cZ) (cQ := cQ) k (by first | with_reducible assumption | omega | assumption))) (gPp.pre (av := [.int (nI k)]) (wc := []) hK hN [] rfl (by decide)) gX0_foundAloneBy_X5_bit_n37 (List.mem_of_getElem? (i := 4) rfl) (List.mem_of_getElem? (i := 3) rfl) 4 rfl rfl kd_X5_bit ⟨by decide, by decide⟩ (st := [.long T, .ref ha, .long (F k)]) rfl (Nat.le_of_ble_eq_true rfl) dX0_foundAloneBy_9 ⟨by decide, by decide⟩) (fun u hu => ?_)
  refine g_ldc2 (v := (-1 : Int64)) B dX0_foundAloneBy_12 (List.mem_of_getElem? (i := 2) rfl) ?_
  refine g_lxor (v := ((lShl 1 (nI k)) ^^^ (-1 : Int64))) B dX0_foundAloneBy_15 (rfl) ?_
  refine g_land (v := (T &&& ((lShl 1 (nI k)) ^^^ (-1 : Int64)))) B dX0_foundAloneBy_16 (rfl) ?_
  refine g_callP (g_runV (q0 := 0) (ci := 0) B hK rfl rfl (PM.met (k_foundBy l (D := D) (cI := cI) (cL := cL) (cZ := cZ) (cQ := cQ) ha a0 a1 a2 a3 n S F (T &&& ((lShl 1 (nI k)) ^^^ (-1 : Int64))) )) (gPp.pre (av := [.ref ha, .long (T &&& ((lShl 1 (nI k)) ^^^ (-1 : Int64)))]) (wc := [(ha, .inr (0, [.ref a0, .ref a1, .ref a2, .ref a3, .int (nI n), .long S])), (a3, .inl (cL, 41, .inr (.inl F)))]) hK hN [0, 1] rfl (by decide)) gX0_foundAloneBy_X0_foundBy rfl rfl kd_X0_foundBy ⟨by decide, by decide⟩ (st := [.long (F k)]) rfl (Nat.le_of_ble_eq_true rfl) dX0_foundAloneBy_17 ⟨by decide, by decide⟩) (fun u hu => ?_)
  refine g_ldc2 (v := (-1 : Int64)) B dX0_foundAloneBy_20 (List.mem_of_getElem? (i := 2) rfl) ?_
  refine g_lxor (v := ((ks_fb F (T &&& ((lShl 1 (nI k)) ^^^ (-1 : Int64))) 41) ^^^ (-1 : Int64))) B dX0_foundAloneBy_23 (rfl) ?_
  refine g_land (v := ((F k) &&& ((ks_fb F (T &&& ((lShl 1 (nI k)) ^^^ (-1 : Int64))) 41) ^^^ (-1 : Int64)))) B dX0_foundAloneBy_24 (rfl) ?_
  exact g_lret_p B hr hlocks () (rfl) (trivial) dX0_foundAloneBy_25

