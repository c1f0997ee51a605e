set_option maxHeartbeats 400000 in
set_option maxRecDepth 100000 in
theorem b_isOnlyFailure (l : Launch) {D : va_G} {cI cL cZ cQ : ClassId} (gb : Nat) (gn : Nat) (gv : Nat) (gk : Nat) (gr : Nat) (hb : Nat) (b : Nat) (dw : Nat) (sd : Nat) (na : Nat → Nat) (wa : Nat → Nat) (ra : Nat → Nat) (ka : Nat → Nat) (P : Pg) (W : Wg) (Q : Rg) (rc : Nat) (t : Nat → Nat) (n : Nat) (S : Int64) (mu : Nat → Nat) (ca : Nat) (hW : ks_WP P) (hca : ca < 10000) (hn16 : n ≤ 16) (ht4 : ∀ i, i < n → t i < 10000) : WM l yX6_isOnlyFailure wsX6_isOnlyFailure ({ frames := 4, cells := 3 + 3 * n, slots := 66 + 66 * n, locals := 133 } : Room) D (gTys cI cL cZ cQ) [.ref gb, .int (nI ca)] ([(gb, .inr (6, [.ref hb, .ref b, .int (nI dw), .ref gn, .ref gv, .int (nI sd), .ref gk, .ref gr])), (gn, .inl (cQ, 12, .inr (.inr (.inr (.inr (fun i => some (na i))))))), (gk, .inl (cQ, n, .inr (.inr (.inr (.inr (fun i => some (ka i)))))))] ++ (tl_T cI 12 na (ks_nr P) 4 wa (ks_wr W) rc ra (ks_rr Q) n ka (ks_kn t S mu))) (fun (_ : Unit) => True) (fun (_ : Unit) => some (.int (bI (ks_of P t n S ca)))) (fun (_ : Unit) => ([(gb, .inr (6, [.ref hb, .ref b, .int (nI dw), .ref gn, .ref gv, .int (nI sd), .ref gk, .ref gr])), (gn, .inl (cQ, 12, .inr (.inr (.inr (.inr (fun i => some (na i))))))), (gk, .inl (cQ, n, .inr (.inr (.inr (.inr (fun i => some (ka i)))))))] ++ (tl_T cI 12 na (ks_nr P) 4 wa (ks_wr W) rc ra (ks_rr Q) n ka (ks_kn t S mu)))) := by
  refine WM.ofG cX6_isOnlyFailure 7 (some .boolean) (by decide +kernel) rfl (Nat.le_of_ble_eq_true rfl) ?_
  intro p e s m below meth c A hA B hr hlocks hname hK hN
  have v1 := ks_rs_lt (t := ca) hW
  refine g_aload_n B dX6_isOnlyFailure_0 0 rfl ?_
  refine g_iload_n B dX6_isOnlyFailure_1 1 rfl ?_
  refine g_callT (w2 := (fun (_ : Unit) => [(gb, .inr (6, [.ref hb, .ref b, .int (nI dw), .ref gn, .ref gv, .int (nI sd), .ref gk, .ref gr])), (gn, .inl (cQ, 12, .inr (.inr (.inr (.inr (fun i => some (na i))))))), (gk, .inl (cQ, n, .inr (.inr (.inr (.inr (fun i => some (ka i)))))))])) (Tx := (fun (_ : Unit) => (tl_T cI 12 na (ks_nr P) 4 wa (ks_wr W) rc ra (ks_rr Q) n ka (ks_kn t S mu)))) (rx := (fun (_ : Unit) => [(gb, .inr (6, [.ref hb, .ref b, .int (nI dw), .ref gn, .ref gv, .int (nI sd), .ref gk, .ref gr])), (gn, .inl (cQ, 12, .inr (.inr (.inr (.inr (fun i => some (na i)))))))])) (g_runV (q0 := 0) (ci := 6) B hK rfl rfl (b_result l (D := D) (cI := cI) (cL := cL) (cZ := cZ) (cQ := cQ) gb gn gv gk gr hb b dw sd na wa ra ka P W Q rc t n S mu ca (by first | with_reducible assumption | omega | assumption) (by first | with_reducible assumption | omega | assumption)) (gPw.preT (av := [.ref gb, .int (nI ca)]) (cx := [(gb, .inr (6, [.ref hb, .ref b, .int (nI dw), .ref gn, .ref gv, .int (nI sd), .ref gk, .ref gr])), (gn, .inl (cQ, 12, .inr (.inr (.inr (.inr (fun i => some (na i)))))))]) hK hN [0, 1] rfl (by decide)) gX6_isOnlyFailure_X6_result rfl rfl kd_X6_result ⟨Nat.le_of_ble_eq_true rfl, Nat.le_of_ble_eq_true rfl⟩ (st := []) rfl (Nat.le_of_ble_eq_true rfl) dX6_isOnlyFailure_2 ⟨by (try dsimp only); omega, by (try dsimp only); omega⟩) hA (fun _ h => h) [0, 1] [2] (wr := [(gk, .inl (cQ, n, .inr (.inr (.inr (.inr (fun i => some (ka i)))))))]) rfl rfl (by decide) (by decide) [1, 2, 0] (by decide) (fun _ => rfl) (fun u hu => ?_)
  refine g_istore_n (lv' := [(0, .ref gb), (1, .int (nI ca)), (2, .int (nI (ks_rs P ca)))]) B dX6_isOnlyFailure_5 rfl (by decide) [1, 2, 0] rfl ?_
  refine g_iload_n B dX6_isOnlyFailure_6 2 rfl ?_
  refine g_bipush (v := (100 : Int32)) B dX6_isOnlyFailure_7 (by decide) ?_
  have b2_0 := ks_rs_lt (t := ca) hW
  refine g_ncmp_ge (tgt := 14) B (ks_rs P ca) 100 rfl rfl (by omega) (by omega) dX6_isOnlyFailure_9 (by decide) (fun c3 => ?_) (fun c3 => ?_)
  · refine g_aload_n B dX6_isOnlyFailure_14 0 rfl ?_
    refine g_get (C := RX6) (T := TX6) (N := 8) (ci := 6) B hK hin_X6_isOnlyFailure_RX6 0 rfl rfl 6 (by decide) (List.mem_of_getElem? (i := 1) rfl) rfl (v := .ref gk) rfl dX6_isOnlyFailure_15 ?_
    refine g_astore_n (lv' := [(0, .ref gb), (1, .int (nI ca)), (2, .int (nI (ks_rs P ca))), (3, .ref gk)]) B dX6_isOnlyFailure_18 rfl (by decide) [1, 2, 3, 0] rfl ?_
    refine g_aload_n B dX6_isOnlyFailure_19 3 rfl ?_
    refine g_alen (v := nI n) B hK 2 3 rfl rfl rfl dX6_isOnlyFailure_20 ?_
    refine g_istore (lv' := [(0, .ref gb), (1, .int (nI ca)), (2, .int (nI (ks_rs P ca))), (3, .ref gk), (4, .int (nI n))]) B dX6_isOnlyFailure_21 (by decide) [1, 2, 3, 4, 0] rfl ?_
    refine g_iconst (v := (0 : Int32)) B dX6_isOnlyFailure_23 (by decide) ?_
    refine g_istore (lv' := [(0, .ref gb), (1, .int (nI ca)), (2, .int (nI (ks_rs P ca))), (3, .ref gk), (4, .int (nI n)), (5, .int (0 : Int32))]) B dX6_isOnlyFailure_24 (by decide) [1, 2, 3, 4, 5, 0] rfl ?_
    refine g_widen (k := 3 + 3 * 0) (n := 66 + 66 * 0) (by (try dsimp only); omega) (by (try dsimp only); omega) ?_
    refine g_loop (σ := Nat) (fun x9 => x9 ≤ n ∧ ∀ j, j < x9 → (hasB S j && !decide (t j = ca) && decide (ks_rs P (t j) = ks_rs P ca)) = false) (fun x9 => 17 - x9) (fun x9 => 3 + 3 * x9) (fun x9 => 66 + 66 * x9) (fun x9 => ([(gb, .inr (6, [.ref hb, .ref b, .int (nI dw), .ref gn, .ref gv, .int (nI sd), .ref gk, .ref gr])), (gn, .inl (cQ, 12, .inr (.inr (.inr (.inr (fun i => some (na i))))))), (gk, .inl (cQ, n, .inr (.inr (.inr (.inr (fun i => some (ka i)))))))] ++ (tl_T cI 12 na (ks_nr P) 4 wa (ks_wr W) rc ra (ks_rr Q) n ka (ks_kn t S mu)))) (fun x9 => [(0, .ref gb), (1, .int (nI ca)), (2, .int (nI (ks_rs P ca))), (3, .ref gk), (4, .int (nI n)), (5, .int (nI x9))]) (fun x9 hI ih26 => ?_) 0 (⟨by omega, fun j h => absurd h (Nat.not_lt_zero j)⟩) rfl rfl rfl rfl
    obtain ⟨k, e9⟩ : ∃ z, z = x9 := ⟨_, rfl⟩; subst e9
    try dsimp only at hI ih26 ⊢
    obtain ⟨i1, i2⟩ := hI
    refine g_iload B dX6_isOnlyFailure_26 5 rfl ?_
    refine g_iload B dX6_isOnlyFailure_28 4 rfl ?_
    refine g_ncmp_ge (tgt := 75) B k n rfl rfl (by omega) (by omega) dX6_isOnlyFailure_30 (by decide) (fun c5 => ?_) (fun c5 => ?_)
    · refine g_iconst (v := (1 : Int32)) B dX6_isOnlyFailure_75 (by decide) ?_
      refine g_widen (k := 3 + 3 * n) (n := 66 + 66 * n) (by (try dsimp only); omega) (by (try dsimp only); omega) ?_
      refine g_subT (X2 := [(gb, .inr (6, [.ref hb, .ref b, .int (nI dw), .ref gn, .ref gv, .int (nI sd), .ref gk, .ref gr])), (gn, .inl (cQ, 12, .inr (.inr (.inr (.inr (fun i => some (na i))))))), (gk, .inl (cQ, n, .inr (.inr (.inr (.inr (fun i => some (ka i)))))))]) [0, 1, 2] (by decide) rfl ?_
      exact g_iret_x B hr rfl hlocks () (by rw [show ks_of P t n S ca = true from by unfold ks_of; rw [ks_first_none (fun j hj => i2 j (by omega)), decide_eq_true (by omega), decide_eq_true (Nat.le_refl n)]; rfl]; rfl) (trivial) rfl dX6_isOnlyFailure_76
    · refine g_aload_n B dX6_isOnlyFailure_33 3 rfl ?_
      refine g_iload B dX6_isOnlyFailure_34 5 rfl ?_
      refine g_qald B hK 2 3 rfl rfl k rfl (by omega) (by omega) (r := (ka k)) rfl dX6_isOnlyFailure_36 ?_
      refine g_astore (lv' := [(0, .ref gb), (1, .int (nI ca)), (2, .int (nI (ks_rs P ca))), (3, .ref gk), (4, .int (nI n)), (5, .int (nI k)), (6, .ref (ka k))]) B dX6_isOnlyFailure_37 (by decide) [1, 2, 3, 4, 5, 6, 0] rfl ?_
      refine g_aload B dX6_isOnlyFailure_39 6 rfl ?_
      refine g_iconst (v := (1 : Int32)) B dX6_isOnlyFailure_41 (by decide) ?_
      refine g_iald B hK _ 0 (tl_g4 (i := k) (by omega)) rfl 1 rfl (by omega) (by omega) (v := bI (hasB S k)) (rfl) dX6_isOnlyFailure_42 ?_
      refine g_iconst (v := (1 : Int32)) B dX6_isOnlyFailure_43 (by decide) ?_
      refine g_bcmp_ne (tgt := 69) B dX6_isOnlyFailure_44 (by decide) (fun c6 => ?_) (fun c6 => ?_)
      · refine g_iinc (lv' := [(0, .ref gb), (1, .int (nI ca)), (2, .int (nI (ks_rs P ca))), (3, .ref gk), (4, .int (nI n)), (5, .int (nI (k + 1))), (6, .ref (ka k))]) B dX6_isOnlyFailure_69 5 rfl (nI_1 k) (by decide) [1, 2, 3, 4, 5, 0, 6] rfl ?_
        refine g_goto (tgt := 26) B dX6_isOnlyFailure_72 (by decide) ?_
        refine g_widen (k := 3 + 3 * (k + 1)) (n := 66 + 66 * (k + 1)) (by (try dsimp only); omega) (by (try dsimp only); omega) ?_
        exact g_pick [0, 1, 2, 3, 4, 5] rfl (ih26 (k + 1) (⟨by omega, lt_s i2 (by rw [c6]; rfl)⟩) (by (try dsimp only); omega))
      · have v2 := ht4 k (by omega)
        refine g_aload B dX6_isOnlyFailure_47 6 rfl ?_
        refine g_iconst (v := (0 : Int32)) B dX6_isOnlyFailure_49 (by decide) ?_
        refine g_iald B hK _ 0 (tl_g4 (i := k) (by omega)) rfl 0 rfl (by omega) (by omega) (v := nI (t k)) (rfl) dX6_isOnlyFailure_50 ?_
        refine g_iload_n B dX6_isOnlyFailure_51 1 rfl ?_
        refine g_ncmp_eq (tgt := 69) B (t k) ca rfl rfl (by omega) (by omega) dX6_isOnlyFailure_52 (by decide) (fun c8 => ?_) (fun c8 => ?_)
        · refine g_iinc (lv' := [(0, .ref gb), (1, .int (nI ca)), (2, .int (nI (ks_rs P ca))), (3, .ref gk), (4, .int (nI n)), (5, .int (nI (k + 1))), (6, .ref (ka k))]) B dX6_isOnlyFailure_69 5 rfl (nI_1 k) (by decide) [1, 2, 3, 4, 5, 0, 6] rfl ?_
          refine g_goto (tgt := 26) B dX6_isOnlyFailure_72 (by decide) ?_
          refine g_widen (k := 3 + 3 * (k + 1)) (n := 66 + 66 * (k + 1)) (by (try dsimp only); omega) (by (try dsimp only); omega) ?_
          exact g_pick [0, 1, 2, 3, 4, 5] rfl (ih26 (k + 1) (⟨by omega, lt_s i2 (by rw [c6, decide_eq_true c8]; rfl)⟩) (by (try dsimp only); omega))
        · refine g_aload_n B dX6_isOnlyFailure_55 0 rfl ?_
          refine g_aload B dX6_isOnlyFailure_56 6 rfl ?_
          refine g_iconst (v := (0 : Int32)) B dX6_isOnlyFailure_58 (by decide) ?_
          refine g_iald B hK _ 0 (tl_g4 (i := k) (by omega)) rfl 0 rfl (by omega) (by omega) (v := nI (t k)) (rfl) dX6_isOnlyFailure_59 ?_
          refine g_callT (w2 := (fun (_ : Unit) => [(gb, .inr (6, [.ref hb, .ref b, .int (nI dw), .ref gn, .ref gv, .int (nI sd), .ref gk, .ref gr])), (gn, .inl (cQ, 12, .inr (.inr (.inr (.inr (fun i => some (na i))))))), (gk, .inl (cQ, n, .inr (.inr (.inr (.inr (fun i => some (ka i)))))))])) (Tx := (fun (_ : Unit) => (tl_T cI 12 na (ks_nr P) 4 wa (ks_wr W) rc ra (ks_rr Q) n ka (ks_kn t S mu)))) (rx := (fun (_ : Unit) => [(gb, .inr (6, [.ref hb, .ref b, .int (nI dw), .ref gn, .ref gv, .int (nI sd), .ref gk, .ref gr])), (gn, .inl (cQ, 12, .inr (.inr (.inr (.inr (fun i => some (na i)))))))])) (g_runV (q0 := 0) (ci := 6) B hK rfl rfl (b_result l (D := D) (cI := cI) (cL := cL) (cZ := cZ) (cQ := cQ) gb gn gv gk gr hb b dw sd na wa ra ka P W Q rc t n S mu (t k) (by first | with_reducible assumption | omega | assumption) (by first | with_reducible assumption | omega | assumption)) (gPw.preT (av := [.ref gb, .int (nI (t k))]) (cx := [(gb, .inr (6, [.ref hb, .ref b, .int (nI dw), .ref gn, .ref gv, .int (nI sd), .ref gk, .ref gr])), (gn, .inl (cQ, 12, .inr (.inr (.inr (.inr (fun i => some (na i)))))))]) hK hN [0, 1] rfl (by decide)) gX6_isOnlyFailure_X6_result rfl rfl kd_X6_result ⟨Nat.le_of_ble_eq_true rfl, Nat.le_of_ble_eq_true rfl⟩ (st := []) rfl (Nat.le_of_ble_eq_true rfl) dX6_isOnlyFailure_60 ⟨by (try dsimp only); omega, by (try dsimp only); omega⟩) hA (fun _ h => h) [0, 1] [2] (wr := [(gk, .inl (cQ, n, .inr (.inr (.inr (.inr (fun i => some (ka i)))))))]) rfl rfl (by decide) (by decide) [1, 2, 0] (by decide) (fun _ => rfl) (fun u hu => ?_)
          refine g_iload_n B dX6_isOnlyFailure_63 2 rfl ?_
          have b10_0 := ks_rs_lt (t := (t k)) hW
          have b10_1 := ks_rs_lt (t := ca) hW
          refine g_ncmp_ne (tgt := 69) B (ks_rs P (t k)) (ks_rs P ca) rfl rfl (by omega) (by omega) dX6_isOnlyFailure_64 (by decide) (fun c11 => ?_) (fun c11 => ?_)
          · refine g_iinc (lv' := [(0, .ref gb), (1, .int (nI ca)), (2, .int (nI (ks_rs P ca))), (3, .ref gk), (4, .int (nI n)), (5, .int (nI (k + 1))), (6, .ref (ka k))]) B dX6_isOnlyFailure_69 5 rfl (nI_1 k) (by decide) [1, 2, 3, 4, 5, 0, 6] rfl ?_
            refine g_goto (tgt := 26) B dX6_isOnlyFailure_72 (by decide) ?_
            refine g_widen (k := 3 + 3 * (k + 1)) (n := 66 + 66 * (k + 1)) (by (try dsimp only); omega) (by (try dsimp only); omega) ?_
            exact g_pick [0, 1, 2, 3, 4, 5] rfl (ih26 (k + 1) (⟨by omega, lt_s i2 (by rw [c6, decide_eq_false c8, decide_eq_false c11]; rfl)⟩) (by (try dsimp only); omega))
          · refine g_iconst (v := (0 : Int32)) B dX6_isOnlyFailure_67 (by decide) ?_
            refine g_widen (k := 3 + 3 * n) (n := 66 + 66 * n) (by (try dsimp only); omega) (by (try dsimp only); omega) ?_
            refine g_subT (X2 := [(gb, .inr (6, [.ref hb, .ref b, .int (nI dw), .ref gn, .ref gv, .int (nI sd), .ref gk, .ref gr])), (gn, .inl (cQ, 12, .inr (.inr (.inr (.inr (fun i => some (na i))))))), (gk, .inl (cQ, n, .inr (.inr (.inr (.inr (fun i => some (ka i)))))))]) [0, 1, 2] (by decide) rfl ?_
            exact g_iret_x B hr rfl hlocks () (by rw [show ks_of P t n S ca = false from by unfold ks_of; rw [ks_first_at (k := k) (by omega) i2 (by rw [c6, decide_eq_false c8, decide_eq_true c11]; rfl), decide_eq_false (show ¬ n ≤ k by omega), Bool.and_false]]; rfl) (trivial) rfl dX6_isOnlyFailure_68
  · refine g_iconst (v := (0 : Int32)) B dX6_isOnlyFailure_12 (by decide) ?_
    refine g_widen (k := 3 + 3 * n) (n := 66 + 66 * n) (by (try dsimp only); omega) (by (try dsimp only); omega) ?_
    refine g_subT (X2 := [(gb, .inr (6, [.ref hb, .ref b, .int (nI dw), .ref gn, .ref gv, .int (nI sd), .ref gk, .ref gr])), (gn, .inl (cQ, 12, .inr (.inr (.inr (.inr (fun i => some (na i))))))), (gk, .inl (cQ, n, .inr (.inr (.inr (.inr (fun i => some (ka i)))))))]) [0, 1, 2] (by decide) rfl ?_
    exact g_iret_x B hr rfl hlocks () (by rw [show ks_of P t n S ca = false from by unfold ks_of; rw [decide_eq_false (by omega), Bool.false_and]]; rfl) (trivial) rfl dX6_isOnlyFailure_13

