set_option maxHeartbeats 400000 in
set_option maxRecDepth 100000 in
theorem k_checkRoom (l : Launch) {D : va_G} {cI cL cZ cQ : ClassId} (hb : Nat) (hp : Nat) (ht : Nat) (hg : Nat) (ha : Nat) (hq : Nat) (a0 : Nat) (a1 : Nat) (a2 : Nat) (a3 : Nat) (n : Nat) (S : Int64) (hn4 : n < 40) : PM l yX5_checkRoom wsX5_checkRoom ({ frames := 0, cells := 0, slots := 0, locals := 0 } : Room) D (gTys cI cL cZ cQ) [.ref hb] [(hb, .inr (5, [.ref hp, .ref ht, .ref hg, .ref ha, .ref hq])), (ha, .inr (0, [.ref a0, .ref a1, .ref a2, .ref a3, .int (nI n), .long S]))] (fun (_ : Unit) => True) (fun (_ : Unit) => none) := by
  refine PM.ofG cX5_checkRoom 1 none (by decide +kernel) rfl (Nat.le_of_ble_eq_true rfl) ?_
  intro p e s m below meth c B hr hlocks hname hK hN
  refine g_aload_n B dX5_checkRoom_0 0 rfl ?_
  refine g_get (C := RX5) (T := TX5) (N := 5) (ci := 5) B hK hin_X5_checkRoom_RX5 0 rfl rfl 3 (by decide) (List.mem_of_getElem? (i := 3) rfl) rfl (v := .ref ha) rfl dX5_checkRoom_1 ?_
  refine g_getN (C := RX0) (T := TX0) (N := 6) (ci := 0) B hK hin_X5_checkRoom_RX0 1 rfl rfl 4 (by decide) hN 4 rfl rfl (v := .int (nI n)) rfl dX5_checkRoom_4 ?_
  refine g_bipush (v := (40 : Int32)) B dX5_checkRoom_7 (by decide) ?_
  refine g_ncmp_lt (tgt := 23) B n 40 rfl rfl (by omega) (by omega) dX5_checkRoom_9 (by decide) (fun c2 => ?_) (fun c2 => ?_)
  rotate_left; · exfalso; omega
  exact g_vret_p B hr hlocks () (rfl) (trivial) dX5_checkRoom_23

