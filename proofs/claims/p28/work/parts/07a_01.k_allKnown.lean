set_option maxHeartbeats 4000000 in
set_option maxRecDepth 100000 in
theorem k_allKnown (l : Launch) {D : va_G} {cI cL cZ cQ : ClassId} (ha : Nat) (a0 : Nat) (a1 : Nat) (a2 : Nat) (a3 : Nat) (n : Nat) (S : Int64) (hn : n ≤ 40) : PM l yX0_allKnown wsX0_allKnown ({ frames := 1, cells := 0, slots := 0, locals := 20 } : Room) D (gTys cI cL cZ cQ) [.ref ha] [(ha, .inr (0, [.ref a0, .ref a1, .ref a2, .ref a3, .int (nI n), .long S]))] (fun (_ : Unit) => True) (fun (_ : Unit) => some (.long (lShl 1 (nI n) - 1))) := by
  refine PM.ofG cX0_allKnown 1 (some .long) (by decide +kernel) rfl (Nat.le_of_ble_eq_true rfl) ?_
  intro p e s m below meth c B hr hlocks hname hK hN
  refine g_aload_n B dX0_allKnown_0 0 rfl ?_
  refine g_get (C := RX0) (T := TX0) (N := 6) (ci := 0) B hK hin_X0_allKnown_RX0 0 rfl rfl 4 (by decide) (List.mem_of_getElem? (i := 1) rfl) rfl (v := .int (nI n)) rfl dX0_allKnown_1 ?_
  refine g_callP (g_runSN B hN (PM.met (k_bit l (D := D) (cI := cI) (cL := cL) (cZ := cZ) (cQ := cQ) n (by first | with_reducible assumption | omega | assumption))) (gPp.pre (av := [.int (nI n)]) (wc := []) hK hN [] rfl (by decide)) gX0_allKnown_X5_bit_n37 (List.mem_of_getElem? (i := 3) rfl) (List.mem_of_getElem? (i := 2) rfl) 4 rfl rfl kd_X5_bit ⟨by decide, by decide⟩ (st := []) rfl (Nat.le_of_ble_eq_true rfl) dX0_allKnown_4 ⟨by decide, by decide⟩) (fun u hu => ?_)
  refine g_lconst (v := (1 : Int64)) B dX0_allKnown_7 rfl ?_
  refine g_lsub (v := ((lShl 1 (nI n)) - (1 : Int64))) B dX0_allKnown_8 (rfl) ?_
  exact g_lret_p B hr hlocks () (rfl) (trivial) dX0_allKnown_9

