set_option maxHeartbeats 4000000 in
set_option maxRecDepth 100000 in
theorem k_coverersOf (l : Launch) {D : va_G} {cI cL cZ cQ : ClassId} (ha : Nat) (a0 : Nat) (a1 : Nat) (a2 : Nat) (a3 : Nat) (n : Nat) (S : Int64) (F : Nat → Int64) (ed : Nat) (hn : n ≤ 40) (he : ed < 24) : PM l yX0_coverersOf wsX0_coverersOf ({ frames := 1, cells := 0, slots := 0, locals := 22 } : Room) D (gTys cI cL cZ cQ) [.ref ha, .int (nI ed)] [(ha, .inr (0, [.ref a0, .ref a1, .ref a2, .ref a3, .int (nI n), .long S])), (a3, .inl (cL, 41, .inr (.inl F)))] (fun (_ : Unit) => True) (fun (_ : Unit) => some (.long (ks_cv F ed n))) := by
  refine PM.ofG cX0_coverersOf 5 (some .long) (by decide +kernel) rfl (Nat.le_of_ble_eq_true rfl) ?_
  intro p e s m below meth c B hr hlocks hname hK hN
  refine g_lconst (v := (0 : Int64)) B dX0_coverersOf_0 rfl ?_
  refine g_lstore_n (lv' := [(0, .ref ha), (1, .int (nI ed)), (2, .long (0 : Int64))]) B dX0_coverersOf_1 rfl (by decide) [1, 2, 0] rfl ?_
  refine g_iconst (v := (0 : Int32)) B dX0_coverersOf_2 (by decide) ?_
  refine g_istore (lv' := [(0, .ref ha), (1, .int (nI ed)), (2, .long (0 : Int64)), (4, .int (0 : Int32))]) B dX0_coverersOf_3 (by decide) [1, 2, 3, 0] rfl ?_
  refine g_loop (σ := Nat) (fun x9 => x9 ≤ n) (fun x9 => 41 - x9) (fun x9 => 0) (fun x9 => 0) (fun x9 => [(ha, .inr (0, [.ref a0, .ref a1, .ref a2, .ref a3, .int (nI n), .long S])), (a3, .inl (cL, 41, .inr (.inl F)))]) (fun x9 => [(0, .ref ha), (1, .int (nI ed)), (2, .long (ks_cv F ed x9)), (4, .int (nI x9))]) (fun x9 hI ih5 => ?_) 0 (by (try dsimp only); omega) rfl rfl rfl rfl
  obtain ⟨k, e9⟩ : ∃ z, z = x9 := ⟨_, rfl⟩; subst e9
  try dsimp only at hI ih5 ⊢
  refine g_iload B dX0_coverersOf_5 3 rfl ?_
  refine g_aload_n B dX0_coverersOf_7 0 rfl ?_
  refine g_get (C := RX0) (T := TX0) (N := 6) (ci := 0) B hK hin_X0_coverersOf_RX0 0 rfl rfl 4 (by decide) (List.mem_of_getElem? (i := 1) rfl) rfl (v := .int (nI n)) rfl dX0_coverersOf_8 ?_
  refine g_ncmp_ge (tgt := 49) B k n rfl rfl (by omega) (by omega) dX0_coverersOf_11 (by decide) (fun c2 => ?_) (fun c2 => ?_)
  · refine g_lload_n B dX0_coverersOf_49 2 rfl ?_
    obtain rfl : k = n := by omega
    exact g_lret_p B hr hlocks () (by first | rfl | (subst_vars; rfl)) (trivial) dX0_coverersOf_50
  · refine g_iload B dX0_coverersOf_14 3 rfl ?_
    refine g_bipush (v := (40 : Int32)) B dX0_coverersOf_16 (by decide) ?_
    refine g_ncmp_ge (tgt := 49) B k 40 rfl rfl (by omega) (by omega) dX0_coverersOf_18 (by decide) (fun c4 => ?_) (fun c4 => ?_)
    · exfalso; omega
    refine g_aload_n B dX0_coverersOf_21 0 rfl ?_
    refine g_get (C := RX0) (T := TX0) (N := 6) (ci := 0) B hK hin_X0_coverersOf_RX0 0 rfl rfl 3 (by decide) (List.mem_of_getElem? (i := 2) rfl) rfl (v := .ref a3) rfl dX0_coverersOf_22 ?_
    refine g_iload B dX0_coverersOf_25 3 rfl ?_
    refine g_lald B hK 1 1 rfl rfl k rfl (by omega) (by omega) (v := (F k)) rfl dX0_coverersOf_27 ?_
    refine g_iload_n B dX0_coverersOf_28 1 rfl ?_
    refine g_callP (g_runSN B hN (PM.met (k_contains l (D := D) (cI := cI) (cL := cL) (cZ := cZ) (cQ := cQ) (F k) ed (by first | with_reducible assumption | omega | assumption))) (gPp.pre (av := [.long (F k), .int (nI ed)]) (wc := []) hK hN [] rfl (by decide)) gX0_coverersOf_X5_contains_n29 (List.mem_of_getElem? (i := 4) rfl) (List.mem_of_getElem? (i := 3) rfl) 3 rfl rfl kd_X5_contains ⟨by decide, by decide⟩ (st := []) rfl (Nat.le_of_ble_eq_true rfl) dX0_coverersOf_29 ⟨by decide, by decide⟩) (fun u hu => ?_)
    refine g_bif_eq (tgt := 43) B dX0_coverersOf_32 (by decide) (fun c6 => ?_) (fun c6 => ?_)
    · refine g_eqlv (lv2 := [(0, .ref ha), (1, .int (nI ed)), (2, .long (ks_cv F ed (k + 1))), (4, .int (nI k))]) (by rw [show ks_cv F ed (k + 1) = (if hasB (F k) ed then ks_cv F ed k ||| lShl 1 (nI k) else ks_cv F ed k) from rfl, c6]; rfl) ?_
      refine g_iinc (lv' := [(0, .ref ha), (1, .int (nI ed)), (2, .long (ks_cv F ed (k + 1))), (4, .int (nI (k + 1)))]) B dX0_coverersOf_43 3 rfl (nI_1 k) (by decide) [1, 2, 3, 0] rfl ?_
      refine g_goto (tgt := 5) B dX0_coverersOf_46 (by decide) ?_
      exact ih5 (k + 1) (by (try dsimp only); omega) (by (try dsimp only); omega)
    · refine g_lload_n B dX0_coverersOf_35 2 rfl ?_
      refine g_iload B dX0_coverersOf_36 3 rfl ?_
      refine g_callP (g_runSN B hN (PM.met (k_bit l (D := D) (cI := cI) (cL := cL) (cZ := cZ) (cQ := cQ) k (by first | with_reducible assumption | omega | assumption))) (gPp.pre (av := [.int (nI k)]) (wc := []) hK hN [] rfl (by decide)) gX0_coverersOf_X5_bit_n37 (List.mem_of_getElem? (i := 4) rfl) (List.mem_of_getElem? (i := 6) rfl) 4 rfl rfl kd_X5_bit ⟨by decide, by decide⟩ (st := [.long (ks_cv F ed k)]) rfl (Nat.le_of_ble_eq_true rfl) dX0_coverersOf_38 ⟨by decide, by decide⟩) (fun u hu => ?_)
      refine g_lor (v := ((ks_cv F ed k) ||| (lShl 1 (nI k)))) B dX0_coverersOf_41 (rfl) ?_
      refine g_lstore_n (lv' := [(0, .ref ha), (1, .int (nI ed)), (2, .long ((ks_cv F ed k) ||| (lShl 1 (nI k)))), (4, .int (nI k))]) B dX0_coverersOf_42 rfl (by decide) [1, 2, 0, 3] rfl ?_
      refine g_eqlv (lv2 := [(0, .ref ha), (1, .int (nI ed)), (2, .long (ks_cv F ed (k + 1))), (4, .int (nI k))]) (by rw [show ks_cv F ed (k + 1) = (if hasB (F k) ed then ks_cv F ed k ||| lShl 1 (nI k) else ks_cv F ed k) from rfl, c6]; rfl) ?_
      refine g_iinc (lv' := [(0, .ref ha), (1, .int (nI ed)), (2, .long (ks_cv F ed (k + 1))), (4, .int (nI (k + 1)))]) B dX0_coverersOf_43 3 rfl (nI_1 k) (by decide) [1, 2, 3, 0] rfl ?_
      refine g_goto (tgt := 5) B dX0_coverersOf_46 (by decide) ?_
      exact ih5 (k + 1) (by (try dsimp only); omega) (by (try dsimp only); omega)

