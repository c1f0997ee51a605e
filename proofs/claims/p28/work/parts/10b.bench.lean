/-! the law: small things -/
theorem kd_L_below : yL_below.cls ≠ "java/lang/invoke/MethodHandle" ∧ yL_below.cls ≠ "java/lang/invoke/VarHandle" ∧ (parseMethodDescriptor yL_below.desc).map (fun d => d.parameters.length) = some 2 := by decide +kernel
theorem kd_L_cell : yL_cell.cls ≠ "java/lang/invoke/MethodHandle" ∧ yL_cell.cls ≠ "java/lang/invoke/VarHandle" ∧ (parseMethodDescriptor yL_cell.desc).map (fun d => d.parameters.length) = some 2 := by decide +kernel
theorem hin_X6_any_RX6 : ∀ z ∈ u_ws RX6 TX6 8, z ∈ wsX6_any := by decide +kernel
set_option maxHeartbeats 4000000 in
set_option maxRecDepth 100000 in
theorem b_below (l : Launch) {D : va_G} {cI cL cZ cQ : ClassId} (v : Int32) (k : Nat) (h1 : 0 < k) (h2 : k < 2 ^ 31) : PM l yL_below wsL_below ({ frames := 0, cells := 0, slots := 0, locals := 0 } : Room) D (gTys cI cL cZ cQ) [.int v, .int (nI k)] [] (fun (r : Nat) => r < k) (fun (r : Nat) => some (.int (nI r))) := by
  refine PM.ofG cL_below 2 (some .int) (by decide +kernel) rfl (Nat.le_of_ble_eq_true rfl) ?_
  intro p e s m below meth c B hr hlocks hname hK hN
  refine g_iload_n B dL_below_0 0 rfl ?_
  refine g_ldc (v := (2147483647 : Int32)) B dL_below_1 (List.mem_of_getElem? (i := 1) rfl) ?_
  refine g_iand (v := (v &&& (2147483647 : Int32))) B dL_below_3 (rfl) ?_
  refine g_eqi (y := nI (v.toBitVec.toNat % 2 ^ 31)) (pk_and v 31 rfl) ?_
  refine g_iload_n B dL_below_4 1 rfl ?_
  refine g_irem (v := nI ((v.toBitVec.toNat % 2 ^ 31) % k)) B dL_below_5 (nI_ne0 (by omega) (by omega)) (pk_rem (a := v.toBitVec.toNat % 2 ^ 31) (d := k) (by omega) (by omega) (by omega)) ?_
  exact g_iret_p B hr rfl hlocks ((v.toBitVec.toNat % 2 ^ 31) % k) (rfl) (Nat.mod_lt _ h1) dL_below_6

set_option maxHeartbeats 4000000 in
set_option maxRecDepth 100000 in
theorem b_slots (l : Launch) {D : va_G} {cI cL cZ cQ : ClassId} (ca : Nat) (hca : ca < 10000) : WM l yX6_slots wsX6_slots ({ frames := 0, cells := 1, slots := 4, locals := 0 } : Room) D (gTys cI cL cZ cQ) [.int (nI ca)] [] (fun (r : Nat) => True) (fun (r : Nat) => some (.ref r)) (fun (r : Nat) => [(r, .inl (cI, 4, .inl (fun i => nI ((ks_dg ca) i))))]) := by
  refine WM.ofG cX6_slots 2 (some (.array .int)) (by decide +kernel) rfl (Nat.le_of_ble_eq_true rfl) ?_
  intro p e s m below meth c A hA B hr hlocks hname hK hN
  refine g_iconst (v := (4 : Int32)) B dX6_slots_0 (by decide) ?_
  refine g_newa B hK hA 0 rfl rfl (List.mem_of_getElem? (i := 1) rfl) rfl (4, .inl (fun _ => (0 : Int32))) (cellI_new 4) (by decide) (by decide) (by decide) (by decide) (by decide) dX6_slots_1 (fun q1 => ?_)
  refine g_eqw (w2 := [(q1, .inl (cI, 4, .inl (fun _ => (0 : Int32))))]) rfl ?_
  refine g_dup B dX6_slots_3 rfl ?_
  refine g_iconst (v := (0 : Int32)) B dX6_slots_4 (by decide) ?_
  refine g_iload_n B dX6_slots_5 0 rfl ?_
  refine g_sipush (v := (1000 : Int32)) B dX6_slots_6 (by decide) ?_
  refine g_idiv (v := nI (ca / 1000)) B dX6_slots_9 (by decide) (pk_div (a := ca) (d := 1000) (by omega) (by decide) (by decide)) ?_
  refine g_iast B hK 0 0 rfl rfl 0 rfl (by omega) (by omega) (f2 := (upd (fun _ => (0 : Int32)) 0 (nI (ca / 1000)))) (rfl) (w2 := [(q1, .inl (cI, 4, .inl (upd (fun _ => (0 : Int32)) 0 (nI (ca / 1000)))))]) rfl (fun _ h => h) dX6_slots_10 ?_
  refine g_dup B dX6_slots_11 rfl ?_
  refine g_iconst (v := (1 : Int32)) B dX6_slots_12 (by decide) ?_
  refine g_iload_n B dX6_slots_13 0 rfl ?_
  refine g_bipush (v := (100 : Int32)) B dX6_slots_14 (by decide) ?_
  refine g_idiv (v := nI (ca / 100)) B dX6_slots_16 (by decide) (pk_div (a := ca) (d := 100) (by omega) (by decide) (by decide)) ?_
  refine g_bipush (v := (10 : Int32)) B dX6_slots_17 (by decide) ?_
  refine g_irem (v := nI ((ca / 100) % 10)) B dX6_slots_19 (by decide) (pk_rem (a := ca / 100) (d := 10) (by omega) (by decide) (by decide)) ?_
  refine g_iast B hK 0 0 rfl rfl 1 rfl (by omega) (by omega) (f2 := (upd (upd (fun _ => (0 : Int32)) 0 (nI (ca / 1000))) 1 (nI ((ca / 100) % 10)))) (rfl) (w2 := [(q1, .inl (cI, 4, .inl (upd (upd (fun _ => (0 : Int32)) 0 (nI (ca / 1000))) 1 (nI ((ca / 100) % 10)))))]) rfl (fun _ h => h) dX6_slots_20 ?_
  refine g_dup B dX6_slots_21 rfl ?_
  refine g_iconst (v := (2 : Int32)) B dX6_slots_22 (by decide) ?_
  refine g_iload_n B dX6_slots_23 0 rfl ?_
  refine g_bipush (v := (10 : Int32)) B dX6_slots_24 (by decide) ?_
  refine g_idiv (v := nI (ca / 10)) B dX6_slots_26 (by decide) (pk_div (a := ca) (d := 10) (by omega) (by decide) (by decide)) ?_
  refine g_bipush (v := (10 : Int32)) B dX6_slots_27 (by decide) ?_
  refine g_irem (v := nI ((ca / 10) % 10)) B dX6_slots_29 (by decide) (pk_rem (a := ca / 10) (d := 10) (by omega) (by decide) (by decide)) ?_
  refine g_iast B hK 0 0 rfl rfl 2 rfl (by omega) (by omega) (f2 := (upd (upd (upd (fun _ => (0 : Int32)) 0 (nI (ca / 1000))) 1 (nI ((ca / 100) % 10))) 2 (nI ((ca / 10) % 10)))) (rfl) (w2 := [(q1, .inl (cI, 4, .inl (upd (upd (upd (fun _ => (0 : Int32)) 0 (nI (ca / 1000))) 1 (nI ((ca / 100) % 10))) 2 (nI ((ca / 10) % 10)))))]) rfl (fun _ h => h) dX6_slots_30 ?_
  refine g_dup B dX6_slots_31 rfl ?_
  refine g_iconst (v := (3 : Int32)) B dX6_slots_32 (by decide) ?_
  refine g_iload_n B dX6_slots_33 0 rfl ?_
  refine g_bipush (v := (10 : Int32)) B dX6_slots_34 (by decide) ?_
  refine g_irem (v := nI (ca % 10)) B dX6_slots_36 (by decide) (pk_rem (a := ca) (d := 10) (by omega) (by decide) (by decide)) ?_
  refine g_iast B hK 0 0 rfl rfl 3 rfl (by omega) (by omega) (f2 := (upd (upd (upd (upd (fun _ => (0 : Int32)) 0 (nI (ca / 1000))) 1 (nI ((ca / 100) % 10))) 2 (nI ((ca / 10) % 10))) 3 (nI (ca % 10)))) (rfl) (w2 := [(q1, .inl (cI, 4, .inl (upd (upd (upd (upd (fun _ => (0 : Int32)) 0 (nI (ca / 1000))) 1 (nI ((ca / 100) % 10))) 2 (nI ((ca / 10) % 10))) 3 (nI (ca % 10)))))]) rfl (fun _ h => h) dX6_slots_37 ?_
  refine g_astore_n (lv' := [(0, .int (nI ca)), (1, .ref q1)]) B dX6_slots_38 rfl (by decide) [1, 0] rfl ?_
  refine g_aload_n B dX6_slots_39 1 rfl ?_
  refine g_arrI 0 (fun i => nI ((ks_dg ca) i)) rfl (sl_eq hca) (w2 := [(q1, .inl (cI, 4, .inl (fun i => nI ((ks_dg ca) i))))]) rfl ?_
  refine g_widen (k := 1) (n := 4) (by (try dsimp only); omega) (by (try dsimp only); omega) ?_
  exact g_aret_w B hr (Or.inr ⟨_, rfl⟩) hlocks q1 (rfl) (trivial) [0] (by decide) rfl dX6_slots_40

set_option maxHeartbeats 4000000 in
set_option maxRecDepth 100000 in
theorem b_tell (l : Launch) {D : va_G} {cI cL cZ cQ : ClassId} (ar : Nat) (g : Nat → Nat)  : PM l yX6_tell wsX6_tell ({ frames := 0, cells := 0, slots := 0, locals := 0 } : Room) D (gTys cI cL cZ cQ) [.ref ar] [(ar, .inl (cI, 4, .inl (fun i => nI (g i))))] (fun (_ : Unit) => True) (fun (_ : Unit) => some (.int (nI (ks_tl g)))) := by
  refine PM.ofG cX6_tell 1 (some .int) (by decide +kernel) rfl (Nat.le_of_ble_eq_true rfl) ?_
  intro p e s m below meth c B hr hlocks hname hK hN
  refine g_sipush (v := (1000 : Int32)) B dX6_tell_0 (by decide) ?_
  refine g_aload_n B dX6_tell_3 0 rfl ?_
  refine g_iconst (v := (0 : Int32)) B dX6_tell_4 (by decide) ?_
  refine g_iald B hK 0 0 rfl rfl 0 rfl (by omega) (by omega) (v := nI (g 0)) rfl dX6_tell_5 ?_
  refine g_imul (v := nI (1000 * (g 0))) B dX6_tell_6 (pk_mul 1000 (g 0)) ?_
  refine g_bipush (v := (100 : Int32)) B dX6_tell_7 (by decide) ?_
  refine g_aload_n B dX6_tell_9 0 rfl ?_
  refine g_iconst (v := (1 : Int32)) B dX6_tell_10 (by decide) ?_
  refine g_iald B hK 0 0 rfl rfl 1 rfl (by omega) (by omega) (v := nI (g 1)) rfl dX6_tell_11 ?_
  refine g_imul (v := nI (100 * (g 1))) B dX6_tell_12 (pk_mul 100 (g 1)) ?_
  refine g_iadd (v := nI ((1000 * (g 0)) + (100 * (g 1)))) B dX6_tell_13 (nI_add (1000 * (g 0)) (100 * (g 1))) ?_
  refine g_bipush (v := (10 : Int32)) B dX6_tell_14 (by decide) ?_
  refine g_aload_n B dX6_tell_16 0 rfl ?_
  refine g_iconst (v := (2 : Int32)) B dX6_tell_17 (by decide) ?_
  refine g_iald B hK 0 0 rfl rfl 2 rfl (by omega) (by omega) (v := nI (g 2)) rfl dX6_tell_18 ?_
  refine g_imul (v := nI (10 * (g 2))) B dX6_tell_19 (pk_mul 10 (g 2)) ?_
  refine g_iadd (v := nI (((1000 * (g 0)) + (100 * (g 1))) + (10 * (g 2)))) B dX6_tell_20 (nI_add ((1000 * (g 0)) + (100 * (g 1))) (10 * (g 2))) ?_
  refine g_aload_n B dX6_tell_21 0 rfl ?_
  refine g_iconst (v := (3 : Int32)) B dX6_tell_22 (by decide) ?_
  refine g_iald B hK 0 0 rfl rfl 3 rfl (by omega) (by omega) (v := nI (g 3)) rfl dX6_tell_23 ?_
  refine g_iadd (v := nI ((((1000 * (g 0)) + (100 * (g 1))) + (10 * (g 2))) + (g 3))) B dX6_tell_24 (nI_add (((1000 * (g 0)) + (100 * (g 1))) + (10 * (g 2))) (g 3)) ?_
  exact g_iret_p B hr rfl hlocks () (by show some (Value.int _) = some (Value.int _); congr 2) (trivial) dX6_tell_25

set_option maxHeartbeats 4000000 in
set_option maxRecDepth 100000 in
theorem b_told (l : Launch) {D : va_G} {cI cL cZ cQ : ClassId} (ar : Nat) (k : Nat) (la : Nat) (f : Nat → Int32) (hk : k ≤ 30) : WM l yX6_told wsX6_told ({ frames := 1, cells := 1, slots := 31, locals := 60 } : Room) D (gTys cI cL cZ cQ) [.ref ar, .int (nI k), .int (nI la)] [(ar, .inl (cI, 31, .inl f))] (fun (q : Nat × (Nat → Int32)) => (∀ j, j < k → q.2 j = f j) ∧ q.2 k = nI la) (fun (q : Nat × (Nat → Int32)) => some (.ref q.1)) (fun (q : Nat × (Nat → Int32)) => [(ar, .inl (cI, 31, .inl f)), (q.1, .inl (cI, (k + 1), .inl q.2))]) := by
  refine WM.ofG cX6_told 4 (some (.array .int)) (by decide +kernel) rfl (Nat.le_of_ble_eq_true rfl) ?_
  intro p e s m below meth c A hA B hr hlocks hname hK hN
  refine g_iload_n B dX6_told_0 1 rfl ?_
  refine g_iconst (v := (1 : Int32)) B dX6_told_1 (by decide) ?_
  refine g_iadd (v := nI (k + 1)) B dX6_told_2 (nI_add k 1) ?_
  refine g_newa B hK hA 0 rfl rfl (List.mem_of_getElem? (i := 1) rfl) rfl ((k + 1), .inl (fun _ => (0 : Int32))) (cellI_new (k + 1)) (nI_pos (by omega)) (nI_clamp (by omega)) (by show _ * _ ≤ _; simp only [componentBytes]; omega) (by (try dsimp only); omega) (by (try dsimp only); omega) dX6_told_3 (fun q1 => ?_)
  refine g_eqw (w2 := [(ar, .inl (cI, 31, .inl f)), (q1, .inl (cI, (k + 1), .inl (fun _ => (0 : Int32))))]) rfl ?_
  refine g_astore_n (lv' := [(0, .ref ar), (1, .int (nI k)), (2, .int (nI la)), (3, .ref q1)]) B dX6_told_5 rfl (by decide) [1, 2, 3, 0] rfl ?_
  refine g_aload_n B dX6_told_6 0 rfl ?_
  refine g_iconst (v := (0 : Int32)) B dX6_told_7 (by decide) ?_
  refine g_aload_n B dX6_told_8 3 rfl ?_
  refine g_iconst (v := (0 : Int32)) B dX6_told_9 (by decide) ?_
  refine g_iload_n B dX6_told_10 1 rfl ?_
  refine g_copyi B hK (List.mem_of_getElem? (i := 2) rfl) (List.mem_of_getElem? (i := 3) rfl) (List.mem_of_getElem? (i := 4) rfl) (List.mem_of_getElem? (i := 5) rfl) 0 1 0 rfl rfl rfl rfl 0 0 k rfl rfl rfl (by omega) (by omega) (by omega) (fun _ _ => rfl) (va_cpy f (fun _ => (0 : Int32)) 0 0 k) (fun _ _ => rfl) (w2 := [(ar, .inl (cI, 31, .inl f)), (q1, .inl (cI, (k + 1), .inl (va_cpy f (fun _ => (0 : Int32)) 0 0 k)))]) rfl (fun _ h => h) (by decide) (by decide) dX6_told_11 ?_
  refine g_aload_n B dX6_told_14 3 rfl ?_
  refine g_iload_n B dX6_told_15 1 rfl ?_
  refine g_iload_n B dX6_told_16 2 rfl ?_
  refine g_iast B hK 1 0 rfl rfl k rfl (by omega) (by omega) (f2 := (upd (va_cpy f (fun _ => (0 : Int32)) 0 0 k) k (nI la))) (rfl) (w2 := [(ar, .inl (cI, 31, .inl f)), (q1, .inl (cI, (k + 1), .inl (upd (va_cpy f (fun _ => (0 : Int32)) 0 0 k) k (nI la))))]) rfl (fun _ h => h) dX6_told_17 ?_
  refine g_aload_n B dX6_told_18 3 rfl ?_
  refine g_widen (k := 1) (n := 31) (by (try dsimp only); omega) (by (try dsimp only); omega) ?_
  exact g_aret_w B hr (Or.inr ⟨_, rfl⟩) hlocks (q1, (upd (va_cpy f (fun _ => (0 : Int32)) 0 0 k) k (nI la))) (rfl) (⟨fun j hj => by rw [pk_un (by omega), pk_cpy_in (by omega) (by omega)]; congr 1; omega, pk_us⟩) [0, 1] (by decide) rfl dX6_told_19

set_option maxHeartbeats 4000000 in
set_option maxRecDepth 100000 in
theorem b_cell (l : Launch) {D : va_G} {cI cL cZ cQ : ClassId} {b L : Nat} {xs : Nat → Int32} (k : Nat) (hL : L ≤ 260) (hk : k < 24) : EM l yL_cell wsL_cell ({ frames := 0, cells := 0, slots := 0, locals := 0 } : Room) D (gTys cI cL cZ cQ) [.ref b, .int (nI k)] [] b L xs (fun (r : Int32) => True) (fun (r : Int32) => some (.int r)) (fun (r : Int32) => []) := by
  refine EM.ofG cL_cell 2 (some .int) (by decide +kernel) rfl (Nat.le_of_ble_eq_true rfl) ?_
  intro p e s m below meth c A hA hX hbl hbA B hr hlocks hname hK hN
  refine g_iload_n B dL_cell_0 1 rfl ?_
  refine g_aload_n B dL_cell_1 0 rfl ?_
  refine g_slen B hX hbl hbA dL_cell_2 ?_
  refine g_ncmp_ge (tgt := 12) B k L rfl rfl (by omega) (by omega) dL_cell_3 (by decide) (fun c1 => ?_) (fun c1 => ?_)
  · refine g_ldc (v := (790386105 : Int32)) B dL_cell_12 (List.mem_of_getElem? (i := 1) rfl) ?_
    refine g_iload_n B dL_cell_14 1 rfl ?_
    refine g_iconst (v := (3 : Int32)) B dL_cell_15 (by decide) ?_
    refine g_iadd (v := nI (k + 3)) B dL_cell_16 (nI_add k 3) ?_
    refine g_imul (v := nI (790386105 * (k + 3))) B dL_cell_17 (pk_mul 790386105 (k + 3)) ?_
    exact g_iret_w B hr rfl hlocks (nI (790386105 * (k + 3))) (rfl) (trivial) [] (by decide) rfl dL_cell_18
  · refine g_aload_n B dL_cell_6 0 rfl ?_
    refine g_iload_n B dL_cell_7 1 rfl ?_
    refine g_sld B hX hbl hbA k rfl (by omega) (by omega) (v := xs k) rfl dL_cell_8 ?_
    refine g_goto (tgt := 18) B dL_cell_9 (by decide) ?_
    exact g_iret_w B hr rfl hlocks (xs k) (rfl) (trivial) [] (by decide) rfl dL_cell_18

set_option maxHeartbeats 4000000 in
set_option maxRecDepth 100000 in
theorem b_any (l : Launch) {D : va_G} {cI cL cZ cQ : ClassId} {b L : Nat} {xs : Nat → Int32} (gb : Nat) (gn : Nat) (gv : Nat) (gk : Nat) (gr : Nat) (hb : Nat) (dw : Nat) (sd : Nat) (nn : Nat) (hL : L ≤ 260) (hd : dw < 2 ^ 20) (h1 : 0 < nn) (h2 : nn < 2 ^ 31) : EM l yX6_any wsX6_any ({ frames := 1, cells := 0, slots := 0, locals := 21 } : Room) D (gTys cI cL cZ cQ) [.ref gb, .int (nI nn)] [(gb, .inr (6, [.ref hb, .ref b, .int (nI dw), .ref gn, .ref gv, .int (nI sd), .ref gk, .ref gr]))] b L xs (fun (r : Nat) => r < nn) (fun (r : Nat) => some (.int (nI r))) (fun (r : Nat) => [(gb, .inr (6, [.ref hb, .ref b, .int (nI (dw + 1)), .ref gn, .ref gv, .int (nI sd), .ref gk, .ref gr]))]) := by
  refine EM.ofG cX6_any 3 (some .int) (by decide +kernel) rfl (Nat.le_of_ble_eq_true rfl) ?_
  intro p e s m below meth c A hA hX hbl hbA B hr hlocks hname hK hN
  refine g_aload_n B dX6_any_0 0 rfl ?_
  refine g_get (C := RX6) (T := TX6) (N := 8) (ci := 6) B hK hin_X6_any_RX6 0 rfl rfl 1 (by decide) (List.mem_of_getElem? (i := 1) rfl) rfl (v := .ref b) rfl dX6_any_1 ?_
  refine g_aload_n B dX6_any_4 0 rfl ?_
  refine g_get (C := RX6) (T := TX6) (N := 8) (ci := 6) B hK hin_X6_any_RX6 0 rfl rfl 2 (by decide) (List.mem_of_getElem? (i := 2) rfl) rfl (v := .int (nI dw)) rfl dX6_any_5 ?_
  refine g_bipush (v := (24 : Int32)) B dX6_any_8 (by decide) ?_
  refine g_irem (v := nI (dw % 24)) B dX6_any_10 (by decide) (pk_rem (a := dw) (d := 24) (by omega) (by decide) (by decide)) ?_
  refine g_callW (w2 := (fun (r_1 : Int32) => [(gb, .inr (6, [.ref hb, .ref b, .int (nI dw), .ref gn, .ref gv, .int (nI sd), .ref gk, .ref gr]))])) (g_runSN B hN (b_cell l (D := D) (cI := cI) (cL := cL) (cZ := cZ) (cQ := cQ) (dw % 24) (by first | assumption | omega) (by first | assumption | omega)) (gPe.pre (av := [.ref b, .int (nI (dw % 24))]) (wc := []) hX hbl hbA hA hK hN [] rfl (by decide)) gX6_any_L_cell_n41 (List.mem_of_getElem? (i := 4) rfl) (List.mem_of_getElem? (i := 3) rfl) 16 rfl rfl kd_L_cell ⟨by decide, by decide⟩ (st := []) rfl (Nat.le_of_ble_eq_true rfl) dX6_any_11 ⟨by decide, by decide⟩) hA (fun _ h => h) [] [0] (wr := [(gb, .inr (6, [.ref hb, .ref b, .int (nI dw), .ref gn, .ref gv, .int (nI sd), .ref gk, .ref gr]))]) rfl rfl (by decide) (by decide) [0] (by decide) (fun _ => rfl) (fun u hu => ?_)
  obtain ⟨r_1, e9⟩ : ∃ z, z = u := ⟨_, rfl⟩; subst e9
  try dsimp only at hu ⊢
  refine g_aload_n B dX6_any_14 0 rfl ?_
  refine g_get (C := RX6) (T := TX6) (N := 8) (ci := 6) B hK hin_X6_any_RX6 0 rfl rfl 2 (by decide) (List.mem_of_getElem? (i := 2) rfl) rfl (v := .int (nI dw)) rfl dX6_any_15 ?_
  refine g_bipush (v := (24 : Int32)) B dX6_any_18 (by decide) ?_
  refine g_idiv (v := nI (dw / 24)) B dX6_any_20 (by decide) (pk_div (a := dw) (d := 24) (by omega) (by decide) (by decide)) ?_
  refine g_bipush (v := (8 : Int32)) B dX6_any_21 (by decide) ?_
  refine g_irem (v := nI ((dw / 24) % 8)) B dX6_any_23 (by decide) (pk_rem (a := dw / 24) (d := 8) (by omega) (by decide) (by decide)) ?_
  refine g_ishr (v := (r_1 >>> (nI ((dw / 24) % 8) &&& 31))) B dX6_any_24 (rfl) ?_
  refine g_sipush (v := (191 : Int32)) B dX6_any_25 (by decide) ?_
  refine g_aload_n B dX6_any_28 0 rfl ?_
  refine g_get (C := RX6) (T := TX6) (N := 8) (ci := 6) B hK hin_X6_any_RX6 0 rfl rfl 2 (by decide) (List.mem_of_getElem? (i := 2) rfl) rfl (v := .int (nI dw)) rfl dX6_any_29 ?_
  refine g_imul (v := nI (191 * dw)) B dX6_any_32 (pk_mul 191 dw) ?_
  refine g_iadd (v := ((r_1 >>> (nI ((dw / 24) % 8) &&& 31)) + nI (191 * dw))) B dX6_any_33 (rfl) ?_
  refine g_iload_n B dX6_any_34 1 rfl ?_
  refine g_callP (g_runSN B hN (PM.met (b_below l (D := D) (cI := cI) (cL := cL) (cZ := cZ) (cQ := cQ) ((r_1 >>> (nI ((dw / 24) % 8) &&& 31)) + nI (191 * dw)) nn (by first | assumption | omega) (by first | assumption | omega))) (gPp.pre (av := [.int ((r_1 >>> (nI ((dw / 24) % 8) &&& 31)) + nI (191 * dw)), .int (nI nn)]) (wc := []) hK hN [] rfl (by decide)) gX6_any_L_below_n47 (List.mem_of_getElem? (i := 4) rfl) (List.mem_of_getElem? (i := 7) rfl) 17 rfl rfl kd_L_below ⟨by decide, by decide⟩ (st := []) rfl (Nat.le_of_ble_eq_true rfl) dX6_any_35 ⟨by decide, by decide⟩) (fun u hu => ?_)
  obtain ⟨r_2, e9⟩ : ∃ z, z = u := ⟨_, rfl⟩; subst e9
  try dsimp only at hu ⊢
  have hu2 := hu
  refine g_istore_n (lv' := [(0, .ref gb), (1, .int (nI nn)), (2, .int (nI r_2))]) B dX6_any_38 rfl (by decide) [1, 2, 0] rfl ?_
  refine g_aload_n B dX6_any_39 0 rfl ?_
  refine g_dup B dX6_any_40 rfl ?_
  refine g_get (C := RX6) (T := TX6) (N := 8) (ci := 6) B hK hin_X6_any_RX6 0 rfl rfl 2 (by decide) (List.mem_of_getElem? (i := 2) rfl) rfl (v := .int (nI dw)) rfl dX6_any_41 ?_
  refine g_iconst (v := (1 : Int32)) B dX6_any_44 (by decide) ?_
  refine g_iadd (v := nI (dw + 1)) B dX6_any_45 (nI_add dw 1) ?_
  refine g_put (C := RX6) (T := TX6) (N := 8) (ci := 6) B hK hin_X6_any_RX6 0 rfl rfl 2 (by decide) tyX6 tyX6_ok nmX6 (List.mem_of_getElem? (i := 2) rfl) rfl rfl (ty := .int) (v := .int (nI (dw + 1))) (by decide +kernel) rfl rfl (Nat.le_of_ble_eq_true rfl) (w2 := [(gb, .inr (6, [.ref hb, .ref b, .int (nI (dw + 1)), .ref gn, .ref gv, .int (nI sd), .ref gk, .ref gr]))]) rfl (fun _ h => h) dX6_any_46 ?_
  refine g_iload_n B dX6_any_49 2 rfl ?_
  exact g_iret_w B hr rfl hlocks r_2 (rfl) (by assumption) [0] (by decide) rfl dX6_any_50

