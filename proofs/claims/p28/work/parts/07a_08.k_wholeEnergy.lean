set_option maxHeartbeats 400000 in
set_option maxRecDepth 100000 in
theorem k_wholeEnergy (l : Launch) {D : va_G} {cI cL cZ cQ : ClassId} (ha : Nat) (a0 : Nat) (a1 : Nat) (a2 : Nat) (a3 : Nat) (n : Nat) (S : Int64) (F : Nat → Int64) (mu : Nat → Nat) (hn : n ≤ 40) (hmu : ∀ i, mu i < 1000) : PM l yX0_wholeEnergy wsX0_wholeEnergy ({ frames := 4, cells := 0, slots := 0, locals := 94 } : Room) D (gTys cI cL cZ cQ) [.ref ha] [(ha, .inr (0, [.ref a0, .ref a1, .ref a2, .ref a3, .int (nI n), .long S])), (a2, .inl (cI, 41, .inl (fun i => nI (mu i)))), (a3, .inl (cL, 41, .inr (.inl F)))] (fun (_ : Unit) => True) (fun (_ : Unit) => some (.int (nI (ks_we F S mu n)))) := by
  refine PM.ofG cX0_wholeEnergy 3 (some .int) (by decide +kernel) rfl (Nat.le_of_ble_eq_true rfl) ?_
  intro p e s m below meth c B hr hlocks hname hK hN
  refine g_iconst (v := (0 : Int32)) B dX0_wholeEnergy_0 (by decide) ?_
  refine g_istore_n (lv' := [(0, .ref ha), (1, .int (0 : Int32))]) B dX0_wholeEnergy_1 rfl (by decide) [1, 0] rfl ?_
  refine g_iconst (v := (0 : Int32)) B dX0_wholeEnergy_2 (by decide) ?_
  refine g_istore_n (lv' := [(0, .ref ha), (1, .int (0 : Int32)), (2, .int (0 : Int32))]) B dX0_wholeEnergy_3 rfl (by decide) [1, 2, 0] rfl ?_
  refine g_loop (σ := Nat) (fun x9 => x9 ≤ n) (fun x9 => 41 - x9) (fun x9 => 0) (fun x9 => 0) (fun x9 => [(ha, .inr (0, [.ref a0, .ref a1, .ref a2, .ref a3, .int (nI n), .long S])), (a2, .inl (cI, 41, .inl (fun i => nI (mu i)))), (a3, .inl (cL, 41, .inr (.inl F)))]) (fun x9 => [(0, .ref ha), (1, .int (nI (ks_we F S mu x9))), (2, .int (nI x9))]) (fun x9 hI ih4 => ?_) 0 (by (try dsimp only); omega) rfl rfl rfl rfl
  obtain ⟨k, e9⟩ : ∃ z, z = x9 := ⟨_, rfl⟩; subst e9
  try dsimp only at hI ih4 ⊢
  refine g_iload_n B dX0_wholeEnergy_4 2 rfl ?_
  refine g_aload_n B dX0_wholeEnergy_5 0 rfl ?_
  refine g_get (C := RX0) (T := TX0) (N := 6) (ci := 0) B hK hin_X0_wholeEnergy_RX0 0 rfl rfl 4 (by decide) (List.mem_of_getElem? (i := 1) rfl) rfl (v := .int (nI n)) rfl dX0_wholeEnergy_6 ?_
  refine g_ncmp_ge (tgt := 32) B k n rfl rfl (by omega) (by omega) dX0_wholeEnergy_9 (by decide) (fun c2 => ?_) (fun c2 => ?_)
  · refine g_iload_n B dX0_wholeEnergy_32 1 rfl ?_
    have hkn : k = n := by omega
    exact g_iret_p B hr rfl hlocks () (by rw [hkn]) (trivial) dX0_wholeEnergy_33
  · refine g_iload_n B dX0_wholeEnergy_12 2 rfl ?_
    refine g_bipush (v := (40 : Int32)) B dX0_wholeEnergy_13 (by decide) ?_
    refine g_ncmp_ge (tgt := 32) B k 40 rfl rfl (by omega) (by omega) dX0_wholeEnergy_15 (by decide) (fun c4 => ?_) (fun c4 => ?_)
    · exfalso; omega
    refine g_iload_n B dX0_wholeEnergy_18 1 rfl ?_
    refine g_aload_n B dX0_wholeEnergy_19 0 rfl ?_
    refine g_iload_n B dX0_wholeEnergy_20 2 rfl ?_
    refine g_callP (g_runV (q0 := 0) (ci := 0) B hK rfl rfl (PM.met (k_energyOf l (D := D) (cI := cI) (cL := cL) (cZ := cZ) (cQ := cQ) ha a0 a1 a2 a3 n S F mu k (by first | with_reducible assumption | omega | assumption) (by first | with_reducible assumption | omega | assumption))) (gPp.pre (av := [.ref ha, .int (nI k)]) (wc := [(ha, .inr (0, [.ref a0, .ref a1, .ref a2, .ref a3, .int (nI n), .long S])), (a2, .inl (cI, 41, .inl (fun i => nI (mu i)))), (a3, .inl (cL, 41, .inr (.inl F)))]) hK hN [0, 1, 2] rfl (by decide)) gX0_wholeEnergy_X0_energyOf rfl rfl kd_X0_energyOf ⟨by decide, by decide⟩ (st := [.int (nI (ks_we F S mu k))]) rfl (Nat.le_of_ble_eq_true rfl) dX0_wholeEnergy_21 ⟨by decide, by decide⟩) (fun u hu => ?_)
    refine g_iadd (v := nI ((ks_we F S mu k) + (ks_en F S mu k))) B dX0_wholeEnergy_24 (nI_add (ks_we F S mu k) (ks_en F S mu k)) ?_
    refine g_istore_n (lv' := [(0, .ref ha), (1, .int (nI ((ks_we F S mu k) + (ks_en F S mu k)))), (2, .int (nI k))]) B dX0_wholeEnergy_25 rfl (by decide) [1, 0, 2] rfl ?_
    refine g_iinc (lv' := [(0, .ref ha), (1, .int (nI ((ks_we F S mu k) + (ks_en F S mu k)))), (2, .int (nI (k + 1)))]) B dX0_wholeEnergy_26 2 rfl (nI_1 k) (by decide) [1, 2, 0] rfl ?_
    refine g_goto (tgt := 4) B dX0_wholeEnergy_29 (by decide) ?_
    exact ih4 (k + 1) (by (try dsimp only); omega) (by (try dsimp only); omega)

