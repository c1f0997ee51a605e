set_option maxHeartbeats 400000 in
set_option maxRecDepth 100000 in
theorem b_slots (l : Launch) {D : va_G} {cI cL cZ cQ : ClassId} (ca : Nat) (hca : ca < 10000) : WM l yX6_slots wsX6_slots ({ frames := 0, cells := 1, slots := 4, locals := 0 } : Room) D (gTys cI cL cZ cQ) [.int (nI ca)] [] (fun (r : Nat) => True) (fun (r : Nat) => some (.ref r)) (fun (r : Nat) => [(r, .inl (cI, 4, .inl (fun i => nI ((ks_dg ca) i))))]) := by
  refine WM.ofG cX6_slots 2 (some (.array .int)) (by decide +kernel) rfl (Nat.le_of_ble_eq_true rfl) ?_
  intro p e s m below meth c A hA B hr hlocks hname hK hN
  refine g_iconst (v := (4 : Int32)) B dX6_slots_0 (by decide) ?_
  refine g_newa B hK hA 0 rfl rfl (List.mem_of_getElem? (i := 1) rfl) rfl (4, .inl (fun _ => (0 : Int32))) (cellI_new 4) (by decide) (by decide) (by decide) (by decide) (by decide) dX6_slots_1 (fun q1 => ?_)
  refine g_eqw (w2 := [(q1, .inl (cI, 4, .inl (fun _ => (0 : Int32))))]) rfl ?_
  refine g_dup B dX6_slots_3 rfl ?_
  refine g_iconst (v := (0 : Int32)) B dX6_slots_4 (by decide) ?_
  refine g_iload_n B dX6_slots_5 0 rfl ?_
  refine g_sipush (v := (1000 : Int32)) B dX6_slots_6 (by decide) ?_
  refine g_idiv (v := nI (ca / 1000)) B dX6_slots_9 (by decide) (pk_div (a := ca) (d := 1000) (by omega) (by decide) (by decide)) ?_
  refine g_iast B hK 0 0 rfl rfl 0 rfl (by omega) (by omega) (f2 := (upd (fun _ => (0 : Int32)) 0 (nI (ca / 1000)))) (rfl) (w2 := [(q1, .inl (cI, 4, .inl (upd (fun _ => (0 : Int32)) 0 (nI (ca / 1000)))))]) rfl (fun _ h => h) dX6_slots_10 ?_
  refine g_dup B dX6_slots_11 rfl ?_
  refine g_iconst (v := (1 : Int32)) B dX6_slots_12 (by decide) ?_
  refine g_iload_n B dX6_slots_13 0 rfl ?_
  refine g_bipush (v := (100 : Int32)) B dX6_slots_14 (by decide) ?_
  refine g_idiv (v := nI (ca / 100)) B dX6_slots_16 (by decide) (pk_div (a := ca) (d := 100) (by omega) (by decide) (by decide)) ?_
  refine g_bipush (v := (10 : Int32)) B dX6_slots_17 (by decide) ?_
  refine g_irem (v := nI ((ca / 100) % 10)) B dX6_slots_19 (by decide) (pk_rem (a := ca / 100) (d := 10) (by omega) (by decide) (by decide)) ?_
  refine g_iast B hK 0 0 rfl rfl 1 rfl (by omega) (by omega) (f2 := (upd (upd (fun _ => (0 : Int32)) 0 (nI (ca / 1000))) 1 (nI ((ca / 100) % 10)))) (rfl) (w2 := [(q1, .inl (cI, 4, .inl (upd (upd (fun _ => (0 : Int32)) 0 (nI (ca / 1000))) 1 (nI ((ca / 100) % 10)))))]) rfl (fun _ h => h) dX6_slots_20 ?_
  refine g_dup B dX6_slots_21 rfl ?_
  refine g_iconst (v := (2 : Int32)) B dX6_slots_22 (by decide) ?_
  refine g_iload_n B dX6_slots_23 0 rfl ?_
  refine g_bipush (v := (10 : Int32)) B dX6_slots_24 (by decide) ?_
  refine g_idiv (v := nI (ca / 10)) B dX6_slots_26 (by decide) (pk_div (a := ca) (d := 10) (by omega) (by decide) (by decide)) ?_
  refine g_bipush (v := (10 : Int32)) B dX6_slots_27 (by decide) ?_
  refine g_irem (v := nI ((ca / 10) % 10)) B dX6_slots_29 (by decide) (pk_rem (a := ca / 10) (d := 10) (by omega) (by decide) (by decide)) ?_
  refine g_iast B hK 0 0 rfl rfl 2 rfl (by omega) (by omega) (f2 := (upd (upd (upd (fun _ => (0 : Int32)) 0 (nI (ca / 1000))) 1 (nI ((ca / 100) % 10))) 2 (nI ((ca / 10) % 10)))) (rfl) (w2 := [(q1, .inl (cI, 4, .inl (upd (upd (upd (fun _ => (0 : Int32)) 0 (nI (ca / 1000))) 1 (nI ((ca / 100) % 10))) 2 (nI ((ca / 10) % 10)))))]) rfl (fun _ h => h) dX6_slots_30 ?_
  refine g_dup B dX6_slots_31 rfl ?_
  refine g_iconst (v := (3 : Int32)) B dX6_slots_32 (by decide) ?_
  refine g_iload_n B dX6_slots_33 0 rfl ?_
  refine g_bipush (v := (10 : Int32)) B dX6_slots_34 (by decide) ?_
  refine g_irem (v := nI (ca % 10)) B dX6_slots_36 (by decide) (pk_rem (a := ca) (d := 10) (by omega) (by decide) (by decide)) ?_
  refine g_iast B hK 0 0 rfl rfl 3 rfl (by omega) (by omega) (f2 := (upd (upd (upd (upd (fun _ => (0 : Int32)) 0 (nI (ca / 1000))) 1 (nI ((ca / 100) % 10))) 2 (nI ((ca / 10) % 10))) 3 (nI (ca % 10)))) (rfl) (w2 := [(q1, .inl (cI, 4, .inl (upd (upd (upd (upd (fun _ => (0 : Int32)) 0 (nI (ca / 1000))) 1 (nI ((ca / 100) % 10))) 2 (nI ((ca / 10) % 10))) 3 (nI (ca % 10)))))]) rfl (fun _ h => h) dX6_slots_37 ?_
  refine g_astore_n (lv' := [(0, .int (nI ca)), (1, .ref q1)]) B dX6_slots_38 rfl (by decide) [1, 0] rfl ?_
  refine g_aload_n B dX6_slots_39 1 rfl ?_
  refine g_arrI 0 (fun i => nI ((ks_dg ca) i)) rfl (sl_eq hca) (w2 := [(q1, .inl (cI, 4, .inl (fun i => nI ((ks_dg ca) i))))]) rfl ?_
  refine g_widen (k := 1) (n := 4) (by (try dsimp only); omega) (by (try dsimp only); omega) ?_
  exact g_aret_w B hr (Or.inr ⟨_, rfl⟩) hlocks q1 (rfl) (trivial) [0] (by decide) rfl dX6_slots_40

