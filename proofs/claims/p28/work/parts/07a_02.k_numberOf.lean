set_option maxHeartbeats 4000000 in
set_option maxRecDepth 100000 in
theorem k_numberOf (l : Launch) {D : va_G} {cI cL cZ cQ : ClassId} (ha : Nat) (a0 : Nat) (a1 : Nat) (a2 : Nat) (a3 : Nat) (n : Nat) (S : Int64) (f0 : Nat → Int32) (t : Nat → Nat) (ca : Nat) (hn : n ≤ 40) (hca : ca < 10000) (h0 : ∀ i, i < n → f0 i = nI (t i) ∧ t i < 10000) : PM l yX0_numberOf wsX0_numberOf ({ frames := 0, cells := 0, slots := 0, locals := 0 } : Room) D (gTys cI cL cZ cQ) [.ref ha, .int (nI ca)] [(ha, .inr (0, [.ref a0, .ref a1, .ref a2, .ref a3, .int (nI n), .long S])), (a0, .inl (cI, 41, .inl f0))] (fun (_ : Unit) => True) (fun (_ : Unit) => some (.int (ks_oI n (ks_no t n ca)))) := by
  refine PM.ofG cX0_numberOf 3 (some .int) (by decide +kernel) rfl (Nat.le_of_ble_eq_true rfl) ?_
  intro p e s m below meth c B hr hlocks hname hK hN
  refine g_iconst (v := (0 : Int32)) B dX0_numberOf_0 (by decide) ?_
  refine g_istore_n (lv' := [(0, .ref ha), (1, .int (nI ca)), (2, .int (0 : Int32))]) B dX0_numberOf_1 rfl (by decide) [1, 2, 0] rfl ?_
  refine g_loop (σ := Nat) (fun x9 => x9 ≤ n ∧ ∀ j, j < x9 → t j ≠ ca) (fun x9 => 41 - x9) (fun x9 => 0) (fun x9 => 0) (fun x9 => [(ha, .inr (0, [.ref a0, .ref a1, .ref a2, .ref a3, .int (nI n), .long S])), (a0, .inl (cI, 41, .inl f0))]) (fun x9 => [(0, .ref ha), (1, .int (nI ca)), (2, .int (nI x9))]) (fun x9 hI ih2 => ?_) 0 (⟨by omega, fun j h => absurd h (Nat.not_lt_zero j)⟩) rfl rfl rfl rfl
  obtain ⟨k, e9⟩ : ∃ z, z = x9 := ⟨_, rfl⟩; subst e9
  try dsimp only at hI ih2 ⊢
  obtain ⟨i1, i2⟩ := hI
  refine g_iload_n B dX0_numberOf_2 2 rfl ?_
  refine g_aload_n B dX0_numberOf_3 0 rfl ?_
  refine g_get (C := RX0) (T := TX0) (N := 6) (ci := 0) B hK hin_X0_numberOf_RX0 0 rfl rfl 4 (by decide) (List.mem_of_getElem? (i := 1) rfl) rfl (v := .int (nI n)) rfl dX0_numberOf_4 ?_
  refine g_ncmp_ge (tgt := 34) B k n rfl rfl (by omega) (by omega) dX0_numberOf_7 (by decide) (fun c2 => ?_) (fun c2 => ?_)
  · refine g_iconst (v := (-1 : Int32)) B dX0_numberOf_34 (by decide) ?_
    exact g_iret_p B hr rfl hlocks () (by rw [ks_no_none (fun j hj => i2 j (by omega))]; unfold ks_oI; rw [if_neg (by omega)]) (trivial) dX0_numberOf_35
  · refine g_iload_n B dX0_numberOf_10 2 rfl ?_
    refine g_bipush (v := (40 : Int32)) B dX0_numberOf_11 (by decide) ?_
    refine g_ncmp_ge (tgt := 34) B k 40 rfl rfl (by omega) (by omega) dX0_numberOf_13 (by decide) (fun c4 => ?_) (fun c4 => ?_)
    · exfalso; omega
    refine g_aload_n B dX0_numberOf_16 0 rfl ?_
    refine g_get (C := RX0) (T := TX0) (N := 6) (ci := 0) B hK hin_X0_numberOf_RX0 0 rfl rfl 0 (by decide) (List.mem_of_getElem? (i := 2) rfl) rfl (v := .ref a0) rfl dX0_numberOf_17 ?_
    have hk0 := (h0 k (by omega)).2
    refine g_iload_n B dX0_numberOf_20 2 rfl ?_
    refine g_iald B hK 1 0 rfl rfl k rfl (by omega) (by omega) (v := nI (t k)) ((h0 k (by omega)).1) dX0_numberOf_21 ?_
    refine g_iload_n B dX0_numberOf_22 1 rfl ?_
    refine g_ncmp_ne (tgt := 28) B (t k) ca rfl rfl (by omega) (by omega) dX0_numberOf_23 (by decide) (fun c6 => ?_) (fun c6 => ?_)
    · refine g_iinc (lv' := [(0, .ref ha), (1, .int (nI ca)), (2, .int (nI (k + 1)))]) B dX0_numberOf_28 2 rfl (nI_1 k) (by decide) [1, 2, 0] rfl ?_
      refine g_goto (tgt := 2) B dX0_numberOf_31 (by decide) ?_
      exact ih2 (k + 1) (⟨by omega, lt_s i2 c6⟩) (by (try dsimp only); omega)
    · refine g_iload_n B dX0_numberOf_26 2 rfl ?_
      exact g_iret_p B hr rfl hlocks () (by rw [ks_no_at (by omega) i2 c6]; unfold ks_oI; rw [if_pos (by omega)]) (trivial) dX0_numberOf_27

