set_option maxHeartbeats 400000 in
set_option maxRecDepth 100000 in
theorem b_below (l : Launch) {D : va_G} {cI cL cZ cQ : ClassId} (v : Int32) (k : Nat) (h1 : 0 < k) (h2 : k < 2 ^ 31) : PM l yL_below wsL_below ({ frames := 0, cells := 0, slots := 0, locals := 0 } : Room) D (gTys cI cL cZ cQ) [.int v, .int (nI k)] [] (fun (r : Nat) => r < k) (fun (r : Nat) => some (.int (nI r))) := by
  refine PM.ofG cL_below 2 (some .int) (by decide +kernel) rfl (Nat.le_of_ble_eq_true rfl) ?_
  intro p e s m below meth c B hr hlocks hname hK hN
  refine g_iload_n B dL_below_0 0 rfl ?_
  refine g_ldc (v := (2147483647 : Int32)) B dL_below_1 (List.mem_of_getElem? (i := 1) rfl) ?_
  refine g_iand (v := (v &&& (2147483647 : Int32))) B dL_below_3 (rfl) ?_
  refine g_eqi (y := nI (v.toBitVec.toNat % 2 ^ 31)) (pk_and v 31 rfl) ?_
  refine g_iload_n B dL_below_4 1 rfl ?_
  refine g_irem (v := nI ((v.toBitVec.toNat % 2 ^ 31) % k)) B dL_below_5 (nI_ne0 (by omega) (by omega)) (pk_rem (a := v.toBitVec.toNat % 2 ^ 31) (d := k) (by omega) (by omega) (by omega)) ?_
  exact g_iret_p B hr rfl hlocks ((v.toBitVec.toNat % 2 ^ 31) % k) (rfl) (Nat.mod_lt _ h1) dL_below_6

