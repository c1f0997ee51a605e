set_option maxHeartbeats 400000 in
set_option maxRecDepth 100000 in
theorem k_neededOf (l : Launch) {D : va_G} {cI cL cZ cQ : ClassId} (ha : Nat) (a0 : Nat) (a1 : Nat) (a2 : Nat) (a3 : Nat) (n : Nat) (S : Int64) (F : Nat → Int64) (T : Int64)  : PM l yX0_neededOf wsX0_neededOf ({ frames := 3, cells := 0, slots := 0, locals := 70 } : Room) D (gTys cI cL cZ cQ) [.ref ha, .long T] [(ha, .inr (0, [.ref a0, .ref a1, .ref a2, .ref a3, .int (nI n), .long S])), (a3, .inl (cL, 41, .inr (.inl F)))] (fun (_ : Unit) => True) (fun (_ : Unit) => some (.long (ks_nS F T 41))) := by
  refine PM.ofG cX0_neededOf 6 (some .long) (by decide +kernel) rfl (Nat.le_of_ble_eq_true rfl) ?_
  intro p e s m below meth c B hr hlocks hname hK hN
  refine g_lload_n B dX0_neededOf_0 1 rfl ?_
  refine g_lstore_n (lv' := [(0, .ref ha), (1, .long T), (3, .long T)]) B dX0_neededOf_1 rfl (by decide) [1, 2, 0] rfl ?_
  refine g_iconst (v := (0 : Int32)) B dX0_neededOf_2 (by decide) ?_
  refine g_istore (lv' := [(0, .ref ha), (1, .long T), (3, .long T), (5, .int (0 : Int32))]) B dX0_neededOf_3 (by decide) [1, 2, 3, 0] rfl ?_
  refine g_loop (σ := Nat) (fun x9 => x9 ≤ 41) (fun x9 => 42 - x9) (fun x9 => 0) (fun x9 => 0) (fun x9 => [(ha, .inr (0, [.ref a0, .ref a1, .ref a2, .ref a3, .int (nI n), .long S])), (a3, .inl (cL, 41, .inr (.inl F)))]) (fun x9 => [(0, .ref ha), (1, .long T), (3, .long (ks_nS F T x9)), (5, .int (nI x9))]) (fun x9 hI ih5 => ?_) 0 (by (try dsimp only); omega) rfl rfl rfl rfl
  obtain ⟨k, e9⟩ : ∃ z, z = x9 := ⟨_, rfl⟩; subst e9
  try dsimp only at hI ih5 ⊢
  refine g_iload B dX0_neededOf_5 3 rfl ?_
  refine g_bipush (v := (41 : Int32)) B dX0_neededOf_7 (by decide) ?_
  refine g_ncmp_ge (tgt := 51) B k 41 rfl rfl (by omega) (by omega) dX0_neededOf_9 (by decide) (fun c2 => ?_) (fun c2 => ?_)
  · refine g_lload_n B dX0_neededOf_51 2 rfl ?_
    have hk41 : k = 41 := by omega
    exact g_lret_p B hr hlocks () (by rw [hk41]) (trivial) dX0_neededOf_52
  · refine g_lload_n B dX0_neededOf_12 2 rfl ?_
    refine g_iload B dX0_neededOf_13 3 rfl ?_
    refine g_callP (g_runSN B hN (PM.met (k_contains l (D := D) (cI := cI) (cL := cL) (cZ := cZ) (cQ := cQ) (ks_nS F T k) k (by first | with_reducible assumption | omega | assumption))) (gPp.pre (av := [.long (ks_nS F T k), .int (nI k)]) (wc := []) hK hN [] rfl (by decide)) gX0_neededOf_X5_contains_n29 (List.mem_of_getElem? (i := 3) rfl) (List.mem_of_getElem? (i := 2) rfl) 3 rfl rfl kd_X5_contains ⟨by decide, by decide⟩ (st := []) rfl (Nat.le_of_ble_eq_true rfl) dX0_neededOf_15 ⟨by decide, by decide⟩) (fun u hu => ?_)
    refine g_bif_eq (tgt := 45) B dX0_neededOf_18 (by decide) (fun c4 => ?_) (fun c4 => ?_)
    · refine g_eqlv (lv2 := [(0, .ref ha), (1, .long T), (3, .long (ks_nS F T (k + 1))), (5, .int (nI k))]) (by rw [show ks_nS F T (k + 1) = (if hasB (ks_nS F T k) k && decide (ks_al F k (ks_nS F T k) = 0) then ks_mi (ks_nS F T k) k else ks_nS F T k) from rfl, c4]; rfl) ?_
      refine g_iinc (lv' := [(0, .ref ha), (1, .long T), (3, .long (ks_nS F T (k + 1))), (5, .int (nI (k + 1)))]) B dX0_neededOf_45 3 rfl (nI_1 k) (by decide) [1, 2, 3, 0] rfl ?_
      refine g_goto (tgt := 5) B dX0_neededOf_48 (by decide) ?_
      exact ih5 (k + 1) (by (try dsimp only); omega) (by (try dsimp only); omega)
    · refine g_aload_n B dX0_neededOf_21 0 rfl ?_
      refine g_iload B dX0_neededOf_22 3 rfl ?_
      refine g_lload_n B dX0_neededOf_24 2 rfl ?_
      refine g_callP (g_runV (q0 := 0) (ci := 0) B hK rfl rfl (PM.met (k_foundAloneBy l (D := D) (cI := cI) (cL := cL) (cZ := cZ) (cQ := cQ) ha a0 a1 a2 a3 n S F (ks_nS F T k) k (by first | with_reducible assumption | omega | assumption))) (gPp.pre (av := [.ref ha, .int (nI k), .long (ks_nS F T k)]) (wc := [(ha, .inr (0, [.ref a0, .ref a1, .ref a2, .ref a3, .int (nI n), .long S])), (a3, .inl (cL, 41, .inr (.inl F)))]) hK hN [0, 1] rfl (by decide)) gX0_neededOf_X0_foundAloneBy rfl rfl kd_X0_foundAloneBy ⟨by decide, by decide⟩ (st := []) rfl (Nat.le_of_ble_eq_true rfl) dX0_neededOf_25 ⟨by decide, by decide⟩) (fun u hu => ?_)
      refine g_lconst (v := (0 : Int64)) B dX0_neededOf_28 rfl ?_
      refine g_lcmp (v := (lg_cmp (ks_al F k (ks_nS F T k)) (0 : Int64))) B dX0_neededOf_29 rfl ?_
      refine g_lif_ne (tgt := 45) B dX0_neededOf_30 (by decide) (fun c6 => ?_) (fun c6 => ?_)
      · refine g_eqlv (lv2 := [(0, .ref ha), (1, .long T), (3, .long (ks_nS F T (k + 1))), (5, .int (nI k))]) (by rw [show ks_nS F T (k + 1) = (if hasB (ks_nS F T k) k && decide (ks_al F k (ks_nS F T k) = 0) then ks_mi (ks_nS F T k) k else ks_nS F T k) from rfl, c4, decide_eq_false c6]; rfl) ?_
        refine g_iinc (lv' := [(0, .ref ha), (1, .long T), (3, .long (ks_nS F T (k + 1))), (5, .int (nI (k + 1)))]) B dX0_neededOf_45 3 rfl (nI_1 k) (by decide) [1, 2, 3, 0] rfl ?_
        refine g_goto (tgt := 5) B dX0_neededOf_48 (by decide) ?_
        exact ih5 (k + 1) (by (try dsimp only); omega) (by (try dsimp only); omega)
      · refine g_lload_n B dX0_neededOf_33 2 rfl ?_
        refine g_iload B dX0_neededOf_34 3 rfl ?_
        refine g_callP (g_runSN B hN (PM.met (k_bit l (D := D) (cI := cI) (cL := cL) (cZ := cZ) (cQ := cQ) k (by first | with_reducible assumption | omega | assumption))) (gPp.pre (av := [.int (nI k)]) (wc := []) hK hN [] rfl (by decide)) gX0_neededOf_X5_bit_n37 (List.mem_of_getElem? (i := 3) rfl) (List.mem_of_getElem? (i := 11) rfl) 4 rfl rfl kd_X5_bit ⟨by decide, by decide⟩ (st := [.long (ks_nS F T k)]) rfl (Nat.le_of_ble_eq_true rfl) dX0_neededOf_36 ⟨by decide, by decide⟩) (fun u hu => ?_)
        refine g_ldc2 (v := (-1 : Int64)) B dX0_neededOf_39 (List.mem_of_getElem? (i := 1) rfl) ?_
        refine g_lxor (v := ((lShl 1 (nI k)) ^^^ (-1 : Int64))) B dX0_neededOf_42 (rfl) ?_
        refine g_land (v := ((ks_nS F T k) &&& ((lShl 1 (nI k)) ^^^ (-1 : Int64)))) B dX0_neededOf_43 (rfl) ?_
        refine g_lstore_n (lv' := [(0, .ref ha), (1, .long T), (3, .long ((ks_nS F T k) &&& ((lShl 1 (nI k)) ^^^ (-1 : Int64)))), (5, .int (nI k))]) B dX0_neededOf_44 rfl (by decide) [1, 2, 0, 3] rfl ?_
        refine g_eqlv (lv2 := [(0, .ref ha), (1, .long T), (3, .long (ks_nS F T (k + 1))), (5, .int (nI k))]) (by rw [show ks_nS F T (k + 1) = (if hasB (ks_nS F T k) k && decide (ks_al F k (ks_nS F T k) = 0) then ks_mi (ks_nS F T k) k else ks_nS F T k) from rfl, c4, decide_eq_true c6]; rfl) ?_
        refine g_iinc (lv' := [(0, .ref ha), (1, .long T), (3, .long (ks_nS F T (k + 1))), (5, .int (nI (k + 1)))]) B dX0_neededOf_45 3 rfl (nI_1 k) (by decide) [1, 2, 3, 0] rfl ?_
        refine g_goto (tgt := 5) B dX0_neededOf_48 (by decide) ?_
        exact ih5 (k + 1) (by (try dsimp only); omega) (by (try dsimp only); omega)

