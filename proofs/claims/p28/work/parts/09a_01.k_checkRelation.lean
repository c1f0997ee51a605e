set_option maxHeartbeats 400000 in
set_option maxRecDepth 100000 in
theorem k_checkRelation (l : Launch) {D : va_G} {cI cL cZ cQ : ClassId} (hb : Nat) (hp : Nat) (ht : Nat) (hg : Nat) (ha : Nat) (hq : Nat) (r0 : Nat) (r1 : Nat) (r2 : Nat) (rc : Nat) (v1 : Nat) (h1 : v1 < rc) (h2 : rc ≤ 6) : PM l yX5_checkRelation wsX5_checkRelation ({ frames := 0, cells := 0, slots := 0, locals := 0 } : Room) D (gTys cI cL cZ cQ) [.ref hb, .int (nI v1)] [(hb, .inr (5, [.ref hp, .ref ht, .ref hg, .ref ha, .ref hq])), (hq, .inr (3, [.ref r0, .ref r1, .ref r2, .int (nI rc)]))] (fun (_ : Unit) => True) (fun (_ : Unit) => none) := by
  refine PM.ofG cX5_checkRelation 2 none (by decide +kernel) rfl (Nat.le_of_ble_eq_true rfl) ?_
  intro p e s m below meth c B hr hlocks hname hK hN
  refine g_iload_n B dX5_checkRelation_0 1 rfl ?_
  refine g_nif_lt (tgt := 21) B v1 rfl (by omega) dX5_checkRelation_1 (by decide) ?_
  refine g_iload_n B dX5_checkRelation_4 1 rfl ?_
  refine g_aload_n B dX5_checkRelation_5 0 rfl ?_
  refine g_get (C := RX5) (T := TX5) (N := 5) (ci := 5) B hK hin_X5_checkRelation_RX5 0 rfl rfl 4 (by decide) (List.mem_of_getElem? (i := 3) rfl) rfl (v := .ref hq) rfl dX5_checkRelation_6 ?_
  refine g_getN (C := RX3) (T := TX3) (N := 4) (ci := 3) B hK hin_X5_checkRelation_RX3 1 rfl rfl 3 (by decide) hN 8 rfl rfl (v := .int (nI rc)) rfl dX5_checkRelation_9 ?_
  refine g_ncmp_ge (tgt := 21) B v1 rc rfl rfl (by omega) (by omega) dX5_checkRelation_12 (by decide) (fun c2 => ?_) (fun c2 => ?_)
  · exfalso; omega
  refine g_iload_n B dX5_checkRelation_15 1 rfl ?_
  refine g_bipush (v := (6 : Int32)) B dX5_checkRelation_16 (by decide) ?_
  refine g_ncmp_lt (tgt := 32) B v1 6 rfl rfl (by omega) (by omega) dX5_checkRelation_18 (by decide) (fun c4 => ?_) (fun c4 => ?_)
  rotate_left; · exfalso; omega
  exact g_vret_p B hr hlocks () (rfl) (trivial) dX5_checkRelation_32

