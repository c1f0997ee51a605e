set_option maxHeartbeats 400000 in
set_option maxRecDepth 100000 in
theorem b_cell (l : Launch) {D : va_G} {cI cL cZ cQ : ClassId} {b L : Nat} {xs : Nat → Int32} (k : Nat) (hL : L ≤ 260) (hk : k < 24) : EM l yL_cell wsL_cell ({ frames := 0, cells := 0, slots := 0, locals := 0 } : Room) D (gTys cI cL cZ cQ) [.ref b, .int (nI k)] [] b L xs (fun (r : Int32) => True) (fun (r : Int32) => some (.int r)) (fun (r : Int32) => []) := by
  refine EM.ofG cL_cell 2 (some .int) (by decide +kernel) rfl (Nat.le_of_ble_eq_true rfl) ?_
  intro p e s m below meth c A hA hX hbl hbA B hr hlocks hname hK hN
  refine g_iload_n B dL_cell_0 1 rfl ?_
  refine g_aload_n B dL_cell_1 0 rfl ?_
  refine g_slen B hX hbl hbA dL_cell_2 ?_
  refine g_ncmp_ge (tgt := 12) B k L rfl rfl (by omega) (by omega) dL_cell_3 (by decide) (fun c2 => ?_) (fun c2 => ?_)
  · refine g_ldc (v := (790386105 : Int32)) B dL_cell_12 (List.mem_of_getElem? (i := 1) rfl) ?_
    refine g_iload_n B dL_cell_14 1 rfl ?_
    refine g_iconst (v := (3 : Int32)) B dL_cell_15 (by decide) ?_
    refine g_iadd (v := nI (k + 3)) B dL_cell_16 (nI_add k 3) ?_
    refine g_imul (v := nI (790386105 * (k + 3))) B dL_cell_17 (pk_mul 790386105 (k + 3)) ?_
    exact g_iret_w B hr rfl hlocks (nI (790386105 * (k + 3))) (rfl) (trivial) [] (by decide) rfl dL_cell_18
  · refine g_aload_n B dL_cell_6 0 rfl ?_
    refine g_iload_n B dL_cell_7 1 rfl ?_
    refine g_sld B hX hbl hbA k rfl (by omega) (by omega) (v := xs k) rfl dL_cell_8 ?_
    refine g_goto (tgt := 18) B dL_cell_9 (by decide) ?_
    exact g_iret_w B hr rfl hlocks (xs k) (rfl) (trivial) [] (by decide) rfl dL_cell_18

