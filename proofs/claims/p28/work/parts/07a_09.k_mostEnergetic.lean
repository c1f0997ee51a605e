set_option maxHeartbeats 400000 in
set_option maxRecDepth 100000 in
theorem k_mostEnergetic (l : Launch) {D : va_G} {cI cL cZ cQ : ClassId} (ha : Nat) (a0 : Nat) (a1 : Nat) (a2 : Nat) (a3 : Nat) (n : Nat) (S : Int64) (F : Nat → Int64) (mu : Nat → Nat) (hn : n ≤ 40) (hmu : ∀ i, mu i < 1000) : PM l yX0_mostEnergetic wsX0_mostEnergetic ({ frames := 4, cells := 0, slots := 0, locals := 94 } : Room) D (gTys cI cL cZ cQ) [.ref ha] [(ha, .inr (0, [.ref a0, .ref a1, .ref a2, .ref a3, .int (nI n), .long S])), (a2, .inl (cI, 41, .inl (fun i => nI (mu i)))), (a3, .inl (cL, 41, .inr (.inl F)))] (fun (_ : Unit) => True) (fun (_ : Unit) => some (.int (nI (ks_be F S mu n).1 - 1))) := by
  refine PM.ofG cX0_mostEnergetic 5 (some .int) (by decide +kernel) rfl (Nat.le_of_ble_eq_true rfl) ?_
  intro p e s m below meth c B hr hlocks hname hK hN
  refine g_iconst (v := (-1 : Int32)) B dX0_mostEnergetic_0 (by decide) ?_
  refine g_istore_n (lv' := [(0, .ref ha), (1, .int (-1 : Int32))]) B dX0_mostEnergetic_1 rfl (by decide) [1, 0] rfl ?_
  refine g_iconst (v := (-1 : Int32)) B dX0_mostEnergetic_2 (by decide) ?_
  refine g_istore_n (lv' := [(0, .ref ha), (1, .int (-1 : Int32)), (2, .int (-1 : Int32))]) B dX0_mostEnergetic_3 rfl (by decide) [1, 2, 0] rfl ?_
  refine g_iconst (v := (0 : Int32)) B dX0_mostEnergetic_4 (by decide) ?_
  refine g_istore_n (lv' := [(0, .ref ha), (1, .int (-1 : Int32)), (2, .int (-1 : Int32)), (3, .int (0 : Int32))]) B dX0_mostEnergetic_5 rfl (by decide) [1, 2, 3, 0] rfl ?_
  refine g_loop (σ := Nat) (fun x9 => x9 ≤ n) (fun x9 => 41 - x9) (fun x9 => 0) (fun x9 => 0) (fun x9 => [(ha, .inr (0, [.ref a0, .ref a1, .ref a2, .ref a3, .int (nI n), .long S])), (a2, .inl (cI, 41, .inl (fun i => nI (mu i)))), (a3, .inl (cL, 41, .inr (.inl F)))]) (fun x9 => [(0, .ref ha), (1, .int (nI (ks_be F S mu x9).1 - 1)), (2, .int (nI (ks_be F S mu x9).2 - 1)), (3, .int (nI x9))]) (fun x9 hI ih6 => ?_) 0 (by (try dsimp only); omega) rfl rfl rfl rfl
  obtain ⟨k, e9⟩ : ∃ z, z = x9 := ⟨_, rfl⟩; subst e9
  try dsimp only at hI ih6 ⊢
  refine g_iload_n B dX0_mostEnergetic_6 3 rfl ?_
  refine g_aload_n B dX0_mostEnergetic_7 0 rfl ?_
  refine g_get (C := RX0) (T := TX0) (N := 6) (ci := 0) B hK hin_X0_mostEnergetic_RX0 0 rfl rfl 4 (by decide) (List.mem_of_getElem? (i := 1) rfl) rfl (v := .int (nI n)) rfl dX0_mostEnergetic_8 ?_
  refine g_ncmp_ge (tgt := 52) B k n rfl rfl (by omega) (by omega) dX0_mostEnergetic_11 (by decide) (fun c2 => ?_) (fun c2 => ?_)
  · refine g_iload_n B dX0_mostEnergetic_52 1 rfl ?_
    have hkn : k = n := by omega
    exact g_iret_p B hr rfl hlocks () (by rw [hkn]) (trivial) dX0_mostEnergetic_53
  · refine g_iload_n B dX0_mostEnergetic_14 3 rfl ?_
    refine g_bipush (v := (40 : Int32)) B dX0_mostEnergetic_15 (by decide) ?_
    refine g_ncmp_ge (tgt := 52) B k 40 rfl rfl (by omega) (by omega) dX0_mostEnergetic_17 (by decide) (fun c4 => ?_) (fun c4 => ?_)
    · exfalso; omega
    refine g_aload_n B dX0_mostEnergetic_20 0 rfl ?_
    refine g_iload_n B dX0_mostEnergetic_21 3 rfl ?_
    refine g_callP (g_runV (q0 := 0) (ci := 0) B hK rfl rfl (PM.met (k_isKept l (D := D) (cI := cI) (cL := cL) (cZ := cZ) (cQ := cQ) ha a0 a1 a2 a3 n S k (by first | with_reducible assumption | omega | assumption))) (gPp.pre (av := [.ref ha, .int (nI k)]) (wc := [(ha, .inr (0, [.ref a0, .ref a1, .ref a2, .ref a3, .int (nI n), .long S]))]) hK hN [0] rfl (by decide)) gX0_mostEnergetic_X0_isKept rfl rfl kd_X0_isKept ⟨by decide, by decide⟩ (st := []) rfl (Nat.le_of_ble_eq_true rfl) dX0_mostEnergetic_22 ⟨by decide, by decide⟩) (fun u hu => ?_)
    refine g_bif_eq (tgt := 46) B dX0_mostEnergetic_25 (by decide) (fun c6 => ?_) (fun c6 => ?_)
    · refine g_pick (lv2 := [(0, .ref ha), (1, .int (nI (ks_be F S mu k).1 - 1)), (2, .int (nI (ks_be F S mu k).2 - 1)), (3, .int (nI k))]) [0, 1, 2, 3] rfl ?_
      refine g_eqlv (lv2 := [(0, .ref ha), (1, .int (nI (ks_be F S mu (k + 1)).1 - 1)), (2, .int (nI (ks_be F S mu (k + 1)).2 - 1)), (3, .int (nI k))]) (by rw [show ks_be F S mu (k + 1) = _ from (ks_be_no c6)]) ?_
      refine g_iinc (lv' := [(0, .ref ha), (1, .int (nI (ks_be F S mu (k + 1)).1 - 1)), (2, .int (nI (ks_be F S mu (k + 1)).2 - 1)), (3, .int (nI (k + 1)))]) B dX0_mostEnergetic_46 3 rfl (nI_1 k) (by decide) [1, 2, 3, 0] rfl ?_
      refine g_goto (tgt := 6) B dX0_mostEnergetic_49 (by decide) ?_
      exact ih6 (k + 1) (by (try dsimp only); omega) (by (try dsimp only); omega)
    · refine g_aload_n B dX0_mostEnergetic_28 0 rfl ?_
      refine g_iload_n B dX0_mostEnergetic_29 3 rfl ?_
      refine g_callP (g_runV (q0 := 0) (ci := 0) B hK rfl rfl (PM.met (k_energyOf l (D := D) (cI := cI) (cL := cL) (cZ := cZ) (cQ := cQ) ha a0 a1 a2 a3 n S F mu k (by first | with_reducible assumption | omega | assumption) (by first | with_reducible assumption | omega | assumption))) (gPp.pre (av := [.ref ha, .int (nI k)]) (wc := [(ha, .inr (0, [.ref a0, .ref a1, .ref a2, .ref a3, .int (nI n), .long S])), (a2, .inl (cI, 41, .inl (fun i => nI (mu i)))), (a3, .inl (cL, 41, .inr (.inl F)))]) hK hN [0, 1, 2] rfl (by decide)) gX0_mostEnergetic_X0_energyOf rfl rfl kd_X0_energyOf ⟨by decide, by decide⟩ (st := []) rfl (Nat.le_of_ble_eq_true rfl) dX0_mostEnergetic_30 ⟨by decide, by decide⟩) (fun u hu => ?_)
      refine g_istore (lv' := [(0, .ref ha), (1, .int (nI (ks_be F S mu k).1 - 1)), (2, .int (nI (ks_be F S mu k).2 - 1)), (3, .int (nI k)), (4, .int (nI (ks_en F S mu k)))]) B dX0_mostEnergetic_33 (by decide) [1, 2, 3, 4, 0] rfl ?_
      refine g_iload B dX0_mostEnergetic_35 4 rfl ?_
      refine g_iload_n B dX0_mostEnergetic_37 2 rfl ?_
      refine g_icmp_le (tgt := 46) B dX0_mostEnergetic_38 (by decide) (fun c8 => ?_) (fun c8 => ?_)
      · refine g_pick (lv2 := [(0, .ref ha), (1, .int (nI (ks_be F S mu k).1 - 1)), (2, .int (nI (ks_be F S mu k).2 - 1)), (3, .int (nI k))]) [0, 1, 2, 3] rfl ?_
        refine g_eqlv (lv2 := [(0, .ref ha), (1, .int (nI (ks_be F S mu (k + 1)).1 - 1)), (2, .int (nI (ks_be F S mu (k + 1)).2 - 1)), (3, .int (nI k))]) (by rw [show ks_be F S mu (k + 1) = _ from (ks_be_le0 c8)]) ?_
        refine g_iinc (lv' := [(0, .ref ha), (1, .int (nI (ks_be F S mu (k + 1)).1 - 1)), (2, .int (nI (ks_be F S mu (k + 1)).2 - 1)), (3, .int (nI (k + 1)))]) B dX0_mostEnergetic_46 3 rfl (nI_1 k) (by decide) [1, 2, 3, 0] rfl ?_
        refine g_goto (tgt := 6) B dX0_mostEnergetic_49 (by decide) ?_
        exact ih6 (k + 1) (by (try dsimp only); omega) (by (try dsimp only); omega)
      · refine g_iload_n B dX0_mostEnergetic_41 3 rfl ?_
        refine g_istore_n (lv' := [(0, .ref ha), (1, .int (nI k)), (2, .int (nI (ks_be F S mu k).2 - 1)), (3, .int (nI k)), (4, .int (nI (ks_en F S mu k)))]) B dX0_mostEnergetic_42 rfl (by decide) [1, 0, 2, 3, 4] rfl ?_
        refine g_iload B dX0_mostEnergetic_43 4 rfl ?_
        refine g_istore_n (lv' := [(0, .ref ha), (1, .int (nI k)), (2, .int (nI (ks_en F S mu k))), (3, .int (nI k)), (4, .int (nI (ks_en F S mu k)))]) B dX0_mostEnergetic_45 rfl (by decide) [1, 2, 0, 3, 4] rfl ?_
        refine g_pick (lv2 := [(0, .ref ha), (1, .int (nI k)), (2, .int (nI (ks_en F S mu k))), (3, .int (nI k))]) [0, 1, 2, 3] rfl ?_
        refine g_eqlv (lv2 := [(0, .ref ha), (1, .int (nI (ks_be F S mu (k + 1)).1 - 1)), (2, .int (nI (ks_be F S mu (k + 1)).2 - 1)), (3, .int (nI k))]) (by rw [show ks_be F S mu (k + 1) = _ from (ks_be_yes c6 c8)]; simp only [← nI_1, ks_sub1]) ?_
        refine g_iinc (lv' := [(0, .ref ha), (1, .int (nI (ks_be F S mu (k + 1)).1 - 1)), (2, .int (nI (ks_be F S mu (k + 1)).2 - 1)), (3, .int (nI (k + 1)))]) B dX0_mostEnergetic_46 3 rfl (nI_1 k) (by decide) [1, 2, 3, 0] rfl ?_
        refine g_goto (tgt := 6) B dX0_mostEnergetic_49 (by decide) ?_
        exact ih6 (k + 1) (by (try dsimp only); omega) (by (try dsimp only); omega)

