set_option maxHeartbeats 4000000 in
set_option maxRecDepth 100000 in
theorem k_isKept (l : Launch) {D : va_G} {cI cL cZ cQ : ClassId} (ha : Nat) (a0 : Nat) (a1 : Nat) (a2 : Nat) (a3 : Nat) (n : Nat) (S : Int64) (k : Nat) (hk : k < 64) : PM l yX0_isKept wsX0_isKept ({ frames := 1, cells := 0, slots := 0, locals := 22 } : Room) D (gTys cI cL cZ cQ) [.ref ha, .int (nI k)] [(ha, .inr (0, [.ref a0, .ref a1, .ref a2, .ref a3, .int (nI n), .long S]))] (fun (_ : Unit) => True) (fun (_ : Unit) => some (.int (bI (hasB S k)))) := by
  refine PM.ofG cX0_isKept 2 (some .boolean) (by decide +kernel) rfl (Nat.le_of_ble_eq_true rfl) ?_
  intro p e s m below meth c B hr hlocks hname hK hN
  refine g_aload_n B dX0_isKept_0 0 rfl ?_
  refine g_get (C := RX0) (T := TX0) (N := 6) (ci := 0) B hK hin_X0_isKept_RX0 0 rfl rfl 5 (by decide) (List.mem_of_getElem? (i := 1) rfl) rfl (v := .long S) rfl dX0_isKept_1 ?_
  refine g_iload_n B dX0_isKept_4 1 rfl ?_
  refine g_callP (g_runSN B hN (PM.met (k_contains l (D := D) (cI := cI) (cL := cL) (cZ := cZ) (cQ := cQ) S k (by first | with_reducible assumption | omega | assumption))) (gPp.pre (av := [.long S, .int (nI k)]) (wc := []) hK hN [] rfl (by decide)) gX0_isKept_X5_contains_n29 (List.mem_of_getElem? (i := 3) rfl) (List.mem_of_getElem? (i := 2) rfl) 3 rfl rfl kd_X5_contains ⟨by decide, by decide⟩ (st := []) rfl (Nat.le_of_ble_eq_true rfl) dX0_isKept_5 ⟨by decide, by decide⟩) (fun u hu => ?_)
  exact g_iret_p B hr (nr_b _) hlocks () (rfl) (trivial) dX0_isKept_8

