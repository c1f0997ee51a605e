set_option maxHeartbeats 400000 in
set_option maxRecDepth 100000 in
theorem b_drop (l : Launch) {D : va_G} {cI cL cZ cQ : ClassId} (gb : Nat) (gn : Nat) (gv : Nat) (gk : Nat) (gr : Nat) (hb : Nat) (b : Nat) (dw : Nat) (sd : Nat) (na : Nat → Nat) (wa : Nat → Nat) (ra : Nat → Nat) (ka : Nat → Nat) (P : Pg) (W : Wg) (Q : Rg) (rc : Nat) (t : Nat → Nat) (n : Nat) (S : Int64) (mu : Nat → Nat) (hW : ks_WP P) (hn16 : n ≤ 16) (ht4 : ∀ i, i < n → t i < 10000) (hap : ks_AP t n) (hS : ks_SK n S) : WM l yX6_drop wsX6_drop ({ frames := 6, cells := 119 * n, slots := 2652 * n, locals := 184 } : Room) D (gTys cI cL cZ cQ) [.ref gb] ([(gb, .inr (6, [.ref hb, .ref b, .int (nI dw), .ref gn, .ref gv, .int (nI sd), .ref gk, .ref gr])), (gn, .inl (cQ, 12, .inr (.inr (.inr (.inr (fun i => some (na i))))))), (gk, .inl (cQ, n, .inr (.inr (.inr (.inr (fun i => some (ka i)))))))] ++ (tl_T cI 12 na (ks_nr P) 4 wa (ks_wr W) rc ra (ks_rr Q) n ka (ks_kn t S mu))) (fun (_ : Unit) => True) (fun (_ : Unit) => none) (fun (_ : Unit) => ([(gb, .inr (6, [.ref hb, .ref b, .int (nI dw), .ref gn, .ref gv, .int (nI sd), .ref gk, .ref gr])), (gn, .inl (cQ, 12, .inr (.inr (.inr (.inr (fun i => some (na i))))))), (gk, .inl (cQ, n, .inr (.inr (.inr (.inr (fun i => some (ka i)))))))] ++ (tl_T cI 12 na (ks_nr P) 4 wa (ks_wr W) rc ra (ks_rr Q) n ka (ks_kn t (ks_nS (ks_F P t) S 41) mu)))) := by
  refine WM.ofG cX6_drop 5 none (by decide +kernel) rfl (Nat.le_of_ble_eq_true rfl) ?_
  intro p e s m below meth c A hA B hr hlocks hname hK hN
  refine g_aload_n B dX6_drop_0 0 rfl ?_
  refine g_get (C := RX6) (T := TX6) (N := 8) (ci := 6) B hK hin_X6_drop_RX6 0 rfl rfl 6 (by decide) (List.mem_of_getElem? (i := 1) rfl) rfl (v := .ref gk) rfl dX6_drop_1 ?_
  refine g_astore_n (lv' := [(0, .ref gb), (1, .ref gk)]) B dX6_drop_4 rfl (by decide) [1, 0] rfl ?_
  refine g_aload_n B dX6_drop_5 1 rfl ?_
  refine g_alen (v := nI n) B hK 2 3 rfl rfl rfl dX6_drop_6 ?_
  refine g_istore_n (lv' := [(0, .ref gb), (1, .ref gk), (2, .int (nI n))]) B dX6_drop_7 rfl (by decide) [1, 2, 0] rfl ?_
  refine g_iconst (v := (0 : Int32)) B dX6_drop_8 (by decide) ?_
  refine g_istore_n (lv' := [(0, .ref gb), (1, .ref gk), (2, .int (nI n)), (3, .int (0 : Int32))]) B dX6_drop_9 rfl (by decide) [1, 2, 3, 0] rfl ?_
  refine g_widen (k := 119 * 0) (n := 2652 * 0) (by (try dsimp only); omega) (by (try dsimp only); omega) ?_
  refine g_loop (σ := Nat) (fun x9 => x9 ≤ n) (fun x9 => 17 - x9) (fun x9 => 119 * x9) (fun x9 => 2652 * x9) (fun x9 => ([(gb, .inr (6, [.ref hb, .ref b, .int (nI dw), .ref gn, .ref gv, .int (nI sd), .ref gk, .ref gr])), (gn, .inl (cQ, 12, .inr (.inr (.inr (.inr (fun i => some (na i))))))), (gk, .inl (cQ, n, .inr (.inr (.inr (.inr (fun i => some (ka i)))))))] ++ (tl_T cI 12 na (ks_nr P) 4 wa (ks_wr W) rc ra (ks_rr Q) n ka (ks_kn t (ks_nS (ks_F P t) S x9) mu)))) (fun x9 => [(0, .ref gb), (1, .ref gk), (2, .int (nI n)), (3, .int (nI x9))]) (fun x9 hI ih10 => ?_) 0 (by (try dsimp only); omega) rfl rfl rfl rfl
  obtain ⟨k, e9⟩ : ∃ z, z = x9 := ⟨_, rfl⟩; subst e9
  try dsimp only at hI ih10 ⊢
  have v1 := fun h => ht4 k h
  refine g_iload_n B dX6_drop_10 3 rfl ?_
  refine g_iload_n B dX6_drop_11 2 rfl ?_
  refine g_ncmp_ge (tgt := 50) B k n rfl rfl (by omega) (by omega) dX6_drop_12 (by decide) (fun c2 => ?_) (fun c2 => ?_)
  · refine g_eqw (w2 := ([(gb, .inr (6, [.ref hb, .ref b, .int (nI dw), .ref gn, .ref gv, .int (nI sd), .ref gk, .ref gr])), (gn, .inl (cQ, 12, .inr (.inr (.inr (.inr (fun i => some (na i))))))), (gk, .inl (cQ, n, .inr (.inr (.inr (.inr (fun i => some (ka i)))))))] ++ (tl_T cI 12 na (ks_nr P) 4 wa (ks_wr W) rc ra (ks_rr Q) n ka (ks_kn t (ks_nS (ks_F P t) S 41) mu)))) (by rw [nS_41 (by omega) hS, show n = k by omega]) ?_
    refine g_widen (k := 119 * n) (n := 2652 * n) (by (try dsimp only); omega) (by (try dsimp only); omega) ?_
    refine g_subT (X2 := [(gb, .inr (6, [.ref hb, .ref b, .int (nI dw), .ref gn, .ref gv, .int (nI sd), .ref gk, .ref gr])), (gn, .inl (cQ, 12, .inr (.inr (.inr (.inr (fun i => some (na i))))))), (gk, .inl (cQ, n, .inr (.inr (.inr (.inr (fun i => some (ka i)))))))]) [0, 1, 2] (by decide) rfl ?_
    exact g_vret_x B hr hlocks () (rfl) (trivial) rfl dX6_drop_50
  · refine g_aload_n B dX6_drop_15 1 rfl ?_
    refine g_iload_n B dX6_drop_16 3 rfl ?_
    refine g_qald B hK 2 3 rfl rfl k rfl (by omega) (by omega) (r := (ka k)) rfl dX6_drop_17 ?_
    refine g_astore (lv' := [(0, .ref gb), (1, .ref gk), (2, .int (nI n)), (3, .int (nI k)), (4, .ref (ka k))]) B dX6_drop_18 (by decide) [1, 2, 3, 4, 0] rfl ?_
    refine g_aload B dX6_drop_20 4 rfl ?_
    refine g_iconst (v := (1 : Int32)) B dX6_drop_22 (by decide) ?_
    refine g_iald B hK _ 0 (tl_g4 (i := k) (by omega)) rfl 1 rfl (by omega) (by omega) (v := bI (hasB (ks_nS (ks_F P t) S k) k)) (rfl) dX6_drop_23 ?_
    refine g_iconst (v := (1 : Int32)) B dX6_drop_24 (by decide) ?_
    refine g_bcmp_ne (tgt := 44) B dX6_drop_25 (by decide) (fun c3 => ?_) (fun c3 => ?_)
    · refine g_eqw (w2 := ([(gb, .inr (6, [.ref hb, .ref b, .int (nI dw), .ref gn, .ref gv, .int (nI sd), .ref gk, .ref gr])), (gn, .inl (cQ, 12, .inr (.inr (.inr (.inr (fun i => some (na i))))))), (gk, .inl (cQ, n, .inr (.inr (.inr (.inr (fun i => some (ka i)))))))] ++ (tl_T cI 12 na (ks_nr P) 4 wa (ks_wr W) rc ra (ks_rr Q) n ka (ks_kn t (ks_nS (ks_F P t) S (k + 1)) mu)))) (by rw [nS_keep (k := k) (Or.inl c3)]) ?_
      refine g_iinc (lv' := [(0, .ref gb), (1, .ref gk), (2, .int (nI n)), (3, .int (nI (k + 1))), (4, .ref (ka k))]) B dX6_drop_44 3 rfl (nI_1 k) (by decide) [1, 2, 3, 0, 4] rfl ?_
      refine g_goto (tgt := 10) B dX6_drop_47 (by decide) ?_
      refine g_widen (k := 119 * (k + 1)) (n := 2652 * (k + 1)) (by (try dsimp only); omega) (by (try dsimp only); omega) ?_
      exact g_pick [0, 1, 2, 3] rfl (ih10 (k + 1) (by (try dsimp only); omega) (by (try dsimp only); omega))
    · refine g_aload_n B dX6_drop_28 0 rfl ?_
      refine g_aload B dX6_drop_29 4 rfl ?_
      refine g_iconst (v := (0 : Int32)) B dX6_drop_31 (by decide) ?_
      refine g_iald B hK _ 0 (tl_g4 (i := k) (by omega)) rfl 0 rfl (by omega) (by omega) (v := nI (t k)) (rfl) dX6_drop_32 ?_
      refine g_callT (w2 := (fun (_ : Unit) => [(gb, .inr (6, [.ref hb, .ref b, .int (nI dw), .ref gn, .ref gv, .int (nI sd), .ref gk, .ref gr])), (gn, .inl (cQ, 12, .inr (.inr (.inr (.inr (fun i => some (na i))))))), (gk, .inl (cQ, n, .inr (.inr (.inr (.inr (fun i => some (ka i)))))))])) (Tx := (fun (_ : Unit) => (tl_T cI 12 na (ks_nr P) 4 wa (ks_wr W) rc ra (ks_rr Q) n ka (ks_kn t (ks_nS (ks_F P t) S k) mu)))) (rx := (fun (_ : Unit) => [(gb, .inr (6, [.ref hb, .ref b, .int (nI dw), .ref gn, .ref gv, .int (nI sd), .ref gk, .ref gr])), (gn, .inl (cQ, 12, .inr (.inr (.inr (.inr (fun i => some (na i))))))), (gk, .inl (cQ, n, .inr (.inr (.inr (.inr (fun i => some (ka i)))))))])) (g_runV (q0 := 0) (ci := 6) B hK rfl rfl (b_isNeeded l (D := D) (cI := cI) (cL := cL) (cZ := cZ) (cQ := cQ) gb gn gv gk gr hb b dw sd na wa ra ka P W Q rc t n (ks_nS (ks_F P t) S k) mu (t k) (by first | with_reducible assumption | omega | assumption) (by first | with_reducible assumption | omega | assumption) (by first | with_reducible assumption | omega | assumption) (by first | with_reducible assumption | omega | assumption)) (gPw.preT (av := [.ref gb, .int (nI (t k))]) (cx := [(gb, .inr (6, [.ref hb, .ref b, .int (nI dw), .ref gn, .ref gv, .int (nI sd), .ref gk, .ref gr])), (gn, .inl (cQ, 12, .inr (.inr (.inr (.inr (fun i => some (na i))))))), (gk, .inl (cQ, n, .inr (.inr (.inr (.inr (fun i => some (ka i)))))))]) hK hN [0, 1, 2] rfl (by decide)) gX6_drop_X6_isNeeded rfl rfl kd_X6_isNeeded ⟨Nat.le_of_ble_eq_true rfl, Nat.le_of_ble_eq_true rfl⟩ (st := []) rfl (Nat.le_of_ble_eq_true rfl) dX6_drop_33 ⟨by (try dsimp only); omega, by (try dsimp only); omega⟩) hA (fun _ h => h) [0, 1, 2] [] (wr := []) rfl rfl (by decide) (by decide) [0, 1, 2] (by decide) (fun _ => rfl) (fun u hu => ?_)
      refine g_bif_ne (tgt := 44) B dX6_drop_36 (by decide) (fun c5 => ?_) (fun c5 => ?_)
      · have hz := at_ne (S := (ks_nS (ks_F P t) S k)) (at_known (P := P) hap (show k < n by omega)) (by omega) (by omega) (nS_SK hS k (by omega)) hW
        refine g_eqw (w2 := ([(gb, .inr (6, [.ref hb, .ref b, .int (nI dw), .ref gn, .ref gv, .int (nI sd), .ref gk, .ref gr])), (gn, .inl (cQ, 12, .inr (.inr (.inr (.inr (fun i => some (na i))))))), (gk, .inl (cQ, n, .inr (.inr (.inr (.inr (fun i => some (ka i)))))))] ++ (tl_T cI 12 na (ks_nr P) 4 wa (ks_wr W) rc ra (ks_rr Q) n ka (ks_kn t (ks_nS (ks_F P t) S (k + 1)) mu)))) (by rw [nS_keep (k := k) (Or.inr (of_decide_eq_false (by rw [c5] at hz; exact (Bool.not_eq_true' _).mp hz.symm)))]) ?_
        refine g_iinc (lv' := [(0, .ref gb), (1, .ref gk), (2, .int (nI n)), (3, .int (nI (k + 1))), (4, .ref (ka k))]) B dX6_drop_44 3 rfl (nI_1 k) (by decide) [1, 2, 3, 0, 4] rfl ?_
        refine g_goto (tgt := 10) B dX6_drop_47 (by decide) ?_
        refine g_widen (k := 119 * (k + 1)) (n := 2652 * (k + 1)) (by (try dsimp only); omega) (by (try dsimp only); omega) ?_
        exact g_pick [0, 1, 2, 3] rfl (ih10 (k + 1) (by (try dsimp only); omega) (by (try dsimp only); omega))
      · refine g_aload B dX6_drop_39 4 rfl ?_
        refine g_iconst (v := (1 : Int32)) B dX6_drop_41 (by decide) ?_
        refine g_iconst (v := (0 : Int32)) B dX6_drop_42 (by decide) ?_
        refine g_iast B hK _ 0 (tl_g4 (i := k) (by omega)) rfl 1 rfl (by omega) (by omega) (f2 := (upd ((ks_kn t (ks_nS (ks_F P t) S k) mu) k) 1 (0 : Int32))) rfl (w2 := ([(gb, .inr (6, [.ref hb, .ref b, .int (nI dw), .ref gn, .ref gv, .int (nI sd), .ref gk, .ref gr])), (gn, .inl (cQ, 12, .inr (.inr (.inr (.inr (fun i => some (na i))))))), (gk, .inl (cQ, n, .inr (.inr (.inr (.inr (fun i => some (ka i)))))))] ++ (tl_T cI 12 na (ks_nr P) 4 wa (ks_wr W) rc ra (ks_rr Q) n ka (tl_up (ks_kn t (ks_nS (ks_F P t) S k) mu) k (upd ((ks_kn t (ks_nS (ks_F P t) S k) mu) k) 1 (0 : Int32)))))) (tl_s4 (by omega)) (fun _ h => h) dX6_drop_43 ?_
        have hz := at_ne (S := (ks_nS (ks_F P t) S k)) (at_known (P := P) hap (show k < n by omega)) (by omega) (by omega) (nS_SK hS k (by omega)) hW
        refine g_eqw (w2 := ([(gb, .inr (6, [.ref hb, .ref b, .int (nI dw), .ref gn, .ref gv, .int (nI sd), .ref gk, .ref gr])), (gn, .inl (cQ, 12, .inr (.inr (.inr (.inr (fun i => some (na i))))))), (gk, .inl (cQ, n, .inr (.inr (.inr (.inr (fun i => some (ka i)))))))] ++ (tl_T cI 12 na (ks_nr P) 4 wa (ks_wr W) rc ra (ks_rr Q) n ka (ks_kn t (ks_nS (ks_F P t) S (k + 1)) mu)))) (tl_c4 (kn_set (nS_drop (by omega) (by omega) c3 (of_decide_eq_true (by rw [c5] at hz; exact (Bool.not_eq_false' _).mp hz.symm))) (Or.inl rfl))) ?_
        refine g_iinc (lv' := [(0, .ref gb), (1, .ref gk), (2, .int (nI n)), (3, .int (nI (k + 1))), (4, .ref (ka k))]) B dX6_drop_44 3 rfl (nI_1 k) (by decide) [1, 2, 3, 0, 4] rfl ?_
        refine g_goto (tgt := 10) B dX6_drop_47 (by decide) ?_
        refine g_widen (k := 119 * (k + 1)) (n := 2652 * (k + 1)) (by (try dsimp only); omega) (by (try dsimp only); omega) ?_
        exact g_pick [0, 1, 2, 3] rfl (ih10 (k + 1) (by (try dsimp only); omega) (by (try dsimp only); omega))

