set_option maxHeartbeats 400000 in
set_option maxRecDepth 100000 in
theorem b_numberOf (l : Launch) {D : va_G} {cI cL cZ cQ : ClassId} (gb : Nat) (gn : Nat) (gv : Nat) (gk : Nat) (gr : Nat) (hb : Nat) (b : Nat) (dw : Nat) (sd : Nat) (na : Nat → Nat) (wa : Nat → Nat) (ra : Nat → Nat) (ka : Nat → Nat) (P : Pg) (W : Wg) (Q : Rg) (rc : Nat) (t : Nat → Nat) (n : Nat) (S : Int64) (mu : Nat → Nat) (ca : Nat) (hn16 : n ≤ 16) (ht4 : ∀ i, i < n → t i < 10000) (hca : ca < 10000) : PM l yX6_numberOf wsX6_numberOf ({ frames := 0, cells := 0, slots := 0, locals := 0 } : Room) D (gTys cI cL cZ cQ) [.ref gb, .int (nI ca)] ([(gb, .inr (6, [.ref hb, .ref b, .int (nI dw), .ref gn, .ref gv, .int (nI sd), .ref gk, .ref gr])), (gk, .inl (cQ, n, .inr (.inr (.inr (.inr (fun i => some (ka i)))))))] ++ (tl_T cI 12 na (ks_nr P) 4 wa (ks_wr W) rc ra (ks_rr Q) n ka (ks_kn t S mu))) (fun (_ : Unit) => True) (fun (_ : Unit) => some (.int (ks_oI n (ks_no t n ca)))) := by
  refine PM.ofG cX6_numberOf 3 (some .int) (by decide +kernel) rfl (Nat.le_of_ble_eq_true rfl) ?_
  intro p e s m below meth c B hr hlocks hname hK hN
  refine g_iconst (v := (0 : Int32)) B dX6_numberOf_0 (by decide) ?_
  refine g_istore_n (lv' := [(0, .ref gb), (1, .int (nI ca)), (2, .int (0 : Int32))]) B dX6_numberOf_1 rfl (by decide) [1, 2, 0] rfl ?_
  refine g_loop (σ := Nat) (fun x9 => x9 ≤ n ∧ ∀ j, j < x9 → t j ≠ ca) (fun x9 => 17 - x9) (fun x9 => 0) (fun x9 => 0) (fun x9 => ([(gb, .inr (6, [.ref hb, .ref b, .int (nI dw), .ref gn, .ref gv, .int (nI sd), .ref gk, .ref gr])), (gk, .inl (cQ, n, .inr (.inr (.inr (.inr (fun i => some (ka i)))))))] ++ (tl_T cI 12 na (ks_nr P) 4 wa (ks_wr W) rc ra (ks_rr Q) n ka (ks_kn t S mu)))) (fun x9 => [(0, .ref gb), (1, .int (nI ca)), (2, .int (nI x9))]) (fun x9 hI ih2 => ?_) 0 (⟨by omega, fun j h => absurd h (Nat.not_lt_zero j)⟩) rfl rfl rfl rfl
  obtain ⟨k, e9⟩ : ∃ z, z = x9 := ⟨_, rfl⟩; subst e9
  try dsimp only at hI ih2 ⊢
  obtain ⟨i1, i2⟩ := hI
  refine g_iload_n B dX6_numberOf_2 2 rfl ?_
  refine g_aload_n B dX6_numberOf_3 0 rfl ?_
  refine g_get (C := RX6) (T := TX6) (N := 8) (ci := 6) B hK hin_X6_numberOf_RX6 0 rfl rfl 6 (by decide) (List.mem_of_getElem? (i := 1) rfl) rfl (v := .ref gk) rfl dX6_numberOf_4 ?_
  refine g_alen (v := nI n) B hK 1 3 rfl rfl rfl dX6_numberOf_7 ?_
  refine g_ncmp_ge (tgt := 31) B k n rfl rfl (by omega) (by omega) dX6_numberOf_8 (by decide) (fun c2 => ?_) (fun c2 => ?_)
  · refine g_iconst (v := (-1 : Int32)) B dX6_numberOf_31 (by decide) ?_
    exact g_iret_p B hr rfl hlocks () (by rw [ks_no_none (fun j hj => i2 j (by omega))]; unfold ks_oI; rw [if_neg (by omega)]) (trivial) dX6_numberOf_32
  · refine g_aload_n B dX6_numberOf_11 0 rfl ?_
    refine g_get (C := RX6) (T := TX6) (N := 8) (ci := 6) B hK hin_X6_numberOf_RX6 0 rfl rfl 6 (by decide) (List.mem_of_getElem? (i := 1) rfl) rfl (v := .ref gk) rfl dX6_numberOf_12 ?_
    refine g_iload_n B dX6_numberOf_15 2 rfl ?_
    refine g_qald B hK 1 3 rfl rfl k rfl (by omega) (by omega) (r := (ka k)) rfl dX6_numberOf_16 ?_
    refine g_iconst (v := (0 : Int32)) B dX6_numberOf_17 (by decide) ?_
    refine g_iald B hK _ 0 (tl_g4 (i := k) (by omega)) rfl 0 rfl (by omega) (by omega) (v := nI (t k)) (rfl) dX6_numberOf_18 ?_
    have hk0 := ht4 k (by omega)
    refine g_iload_n B dX6_numberOf_19 1 rfl ?_
    refine g_ncmp_ne (tgt := 25) B (t k) ca rfl rfl (by omega) (by omega) dX6_numberOf_20 (by decide) (fun c4 => ?_) (fun c4 => ?_)
    · refine g_iinc (lv' := [(0, .ref gb), (1, .int (nI ca)), (2, .int (nI (k + 1)))]) B dX6_numberOf_25 2 rfl (nI_1 k) (by decide) [1, 2, 0] rfl ?_
      refine g_goto (tgt := 2) B dX6_numberOf_28 (by decide) ?_
      exact ih2 (k + 1) (⟨by omega, lt_s i2 c4⟩) (by (try dsimp only); omega)
    · refine g_iload_n B dX6_numberOf_23 2 rfl ?_
      exact g_iret_p B hr rfl hlocks () (by rw [ks_no_at (by omega) i2 c4]; unfold ks_oI; rw [if_pos (by omega)]) (trivial) dX6_numberOf_24

