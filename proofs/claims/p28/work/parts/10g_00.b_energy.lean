set_option maxHeartbeats 4000000 in
set_option maxRecDepth 100000 in
theorem b_energy (l : Launch) {D : va_G} {cI cL cZ cQ : ClassId} (gb : Nat) (gn : Nat) (gv : Nat) (gk : Nat) (gr : Nat) (hb : Nat) (b : Nat) (dw : Nat) (sd : Nat) (na : Nat → Nat) (wa : Nat → Nat) (ra : Nat → Nat) (ka : Nat → Nat) (P : Pg) (W : Wg) (Q : Rg) (rc : Nat) (t : Nat → Nat) (n : Nat) (S : Int64) (mu : Nat → Nat) (k : Nat) (hW : ks_WP P) (hn16 : n ≤ 16) (ht4 : ∀ i, i < n → t i < 10000) (hap : ks_AP t n) (hS : ks_SK n S) (hmu : ∀ i, mu i < 1000) (hk : k < n) : WM l yX6_energy wsX6_energy ({ frames := 5, cells := 7 + 7 * n, slots := 156 + 156 * n, locals := 163 } : Room) D (gTys cI cL cZ cQ) [.ref gb, .int (nI k)] ([(gb, .inr (6, [.ref hb, .ref b, .int (nI dw), .ref gn, .ref gv, .int (nI sd), .ref gk, .ref gr])), (gn, .inl (cQ, 12, .inr (.inr (.inr (.inr (fun i => some (na i))))))), (gk, .inl (cQ, n, .inr (.inr (.inr (.inr (fun i => some (ka i)))))))] ++ (tl_T cI 12 na (ks_nr P) 4 wa (ks_wr W) rc ra (ks_rr Q) n ka (ks_kn t S mu))) (fun (_ : Unit) => True) (fun (_ : Unit) => some (.int (nI (ks_en (ks_F P t) S mu k)))) (fun (_ : Unit) => ([(gb, .inr (6, [.ref hb, .ref b, .int (nI dw), .ref gn, .ref gv, .int (nI sd), .ref gk, .ref gr])), (gn, .inl (cQ, 12, .inr (.inr (.inr (.inr (fun i => some (na i))))))), (gk, .inl (cQ, n, .inr (.inr (.inr (.inr (fun i => some (ka i)))))))] ++ (tl_T cI 12 na (ks_nr P) 4 wa (ks_wr W) rc ra (ks_rr Q) n ka (ks_kn t S mu)))) := by
  refine WM.ofG cX6_energy 2 (some .int) (by decide +kernel) rfl (Nat.le_of_ble_eq_true rfl) ?_
  intro p e s m below meth c A hA B hr hlocks hname hK hN
  have v2 := ht4 k hk
  have v3 : ks_av P t n S (t k) ≤ 24 := fb_ct_le _ _
  refine g_aload_n B dX6_energy_0 0 rfl ?_
  refine g_get (C := RX6) (T := TX6) (N := 8) (ci := 6) B hK hin_X6_energy_RX6 0 rfl rfl 6 (by decide) (List.mem_of_getElem? (i := 1) rfl) rfl (v := .ref gk) rfl dX6_energy_1 ?_
  refine g_iload_n B dX6_energy_4 1 rfl ?_
  refine g_qald B hK 2 3 rfl rfl k rfl (by omega) (by omega) (r := (ka k)) rfl dX6_energy_5 ?_
  refine g_iconst (v := (1 : Int32)) B dX6_energy_6 (by decide) ?_
  refine g_iald B hK _ 0 (tl_g4 (i := k) (by omega)) rfl 1 rfl (by omega) (by omega) (v := bI (hasB S k)) (rfl) dX6_energy_7 ?_
  refine g_bif_ne (tgt := 13) B dX6_energy_8 (by decide) (fun c1 => ?_) (fun c1 => ?_)
  · refine g_iconst (v := (0 : Int32)) B dX6_energy_13 (by decide) ?_
    refine g_iconst (v := (1 : Int32)) B dX6_energy_14 (by decide) ?_
    refine g_iconst (v := (3 : Int32)) B dX6_energy_15 (by decide) ?_
    refine g_aload_n B dX6_energy_16 0 rfl ?_
    refine g_aload_n B dX6_energy_17 0 rfl ?_
    refine g_get (C := RX6) (T := TX6) (N := 8) (ci := 6) B hK hin_X6_energy_RX6 0 rfl rfl 6 (by decide) (List.mem_of_getElem? (i := 1) rfl) rfl (v := .ref gk) rfl dX6_energy_18 ?_
    refine g_iload_n B dX6_energy_21 1 rfl ?_
    refine g_qald B hK 2 3 rfl rfl k rfl (by omega) (by omega) (r := (ka k)) rfl dX6_energy_22 ?_
    refine g_iconst (v := (0 : Int32)) B dX6_energy_23 (by decide) ?_
    refine g_iald B hK _ 0 (tl_g4 (i := k) (by omega)) rfl 0 rfl (by omega) (by omega) (v := nI (t k)) (rfl) dX6_energy_24 ?_
    refine g_callT (w2 := (fun (_ : Unit) => [(gb, .inr (6, [.ref hb, .ref b, .int (nI dw), .ref gn, .ref gv, .int (nI sd), .ref gk, .ref gr])), (gn, .inl (cQ, 12, .inr (.inr (.inr (.inr (fun i => some (na i))))))), (gk, .inl (cQ, n, .inr (.inr (.inr (.inr (fun i => some (ka i)))))))])) (Tx := (fun (_ : Unit) => (tl_T cI 12 na (ks_nr P) 4 wa (ks_wr W) rc ra (ks_rr Q) n ka (ks_kn t S mu)))) (rx := (fun (_ : Unit) => [(gb, .inr (6, [.ref hb, .ref b, .int (nI dw), .ref gn, .ref gv, .int (nI sd), .ref gk, .ref gr])), (gn, .inl (cQ, 12, .inr (.inr (.inr (.inr (fun i => some (na i))))))), (gk, .inl (cQ, n, .inr (.inr (.inr (.inr (fun i => some (ka i)))))))])) (g_runV (q0 := 0) (ci := 6) B hK rfl rfl (b_alone l (D := D) (cI := cI) (cL := cL) (cZ := cZ) (cQ := cQ) gb gn gv gk gr hb b dw sd na wa ra ka P W Q rc t n S mu (t k) (by first | with_reducible assumption | omega | assumption) (by first | with_reducible assumption | omega | assumption) (by first | with_reducible assumption | omega | assumption) (by first | with_reducible assumption | omega | assumption)) (gPw.preT (av := [.ref gb, .int (nI (t k))]) (cx := [(gb, .inr (6, [.ref hb, .ref b, .int (nI dw), .ref gn, .ref gv, .int (nI sd), .ref gk, .ref gr])), (gn, .inl (cQ, 12, .inr (.inr (.inr (.inr (fun i => some (na i))))))), (gk, .inl (cQ, n, .inr (.inr (.inr (.inr (fun i => some (ka i)))))))]) hK hN [0, 1, 2] rfl (by decide)) gX6_energy_X6_alone rfl rfl kd_X6_alone ⟨Nat.le_of_ble_eq_true rfl, Nat.le_of_ble_eq_true rfl⟩ (st := [.int (3 : Int32), .int (1 : Int32), .int (0 : Int32)]) rfl (Nat.le_of_ble_eq_true rfl) dX6_energy_25 ⟨by (try dsimp only); omega, by (try dsimp only); omega⟩) hA (fun _ h => h) [0, 1, 2] [] (wr := []) rfl rfl (by decide) (by decide) [0, 1, 2] (by decide) (fun _ => rfl) (fun u hu => ?_)
    refine g_imul (v := nI (3 * (ks_av P t n S (t k)))) B dX6_energy_28 (pk_mul 3 (ks_av P t n S (t k))) ?_
    refine g_iadd (v := nI (1 + (3 * (ks_av P t n S (t k))))) B dX6_energy_29 (nI_add 1 (3 * (ks_av P t n S (t k)))) ?_
    refine g_aload_n B dX6_energy_30 0 rfl ?_
    refine g_aload_n B dX6_energy_31 0 rfl ?_
    refine g_get (C := RX6) (T := TX6) (N := 8) (ci := 6) B hK hin_X6_energy_RX6 0 rfl rfl 6 (by decide) (List.mem_of_getElem? (i := 1) rfl) rfl (v := .ref gk) rfl dX6_energy_32 ?_
    refine g_iload_n B dX6_energy_35 1 rfl ?_
    refine g_qald B hK 2 3 rfl rfl k rfl (by omega) (by omega) (r := (ka k)) rfl dX6_energy_36 ?_
    refine g_iconst (v := (0 : Int32)) B dX6_energy_37 (by decide) ?_
    refine g_iald B hK _ 0 (tl_g4 (i := k) (by omega)) rfl 0 rfl (by omega) (by omega) (v := nI (t k)) (rfl) dX6_energy_38 ?_
    refine g_callT (w2 := (fun (_ : Unit) => [(gb, .inr (6, [.ref hb, .ref b, .int (nI dw), .ref gn, .ref gv, .int (nI sd), .ref gk, .ref gr])), (gn, .inl (cQ, 12, .inr (.inr (.inr (.inr (fun i => some (na i))))))), (gk, .inl (cQ, n, .inr (.inr (.inr (.inr (fun i => some (ka i)))))))])) (Tx := (fun (_ : Unit) => (tl_T cI 12 na (ks_nr P) 4 wa (ks_wr W) rc ra (ks_rr Q) n ka (ks_kn t S mu)))) (rx := (fun (_ : Unit) => [(gb, .inr (6, [.ref hb, .ref b, .int (nI dw), .ref gn, .ref gv, .int (nI sd), .ref gk, .ref gr])), (gn, .inl (cQ, 12, .inr (.inr (.inr (.inr (fun i => some (na i))))))), (gk, .inl (cQ, n, .inr (.inr (.inr (.inr (fun i => some (ka i)))))))])) (g_runV (q0 := 0) (ci := 6) B hK rfl rfl (b_isOnlyFailure l (D := D) (cI := cI) (cL := cL) (cZ := cZ) (cQ := cQ) gb gn gv gk gr hb b dw sd na wa ra ka P W Q rc t n S mu (t k) (by first | with_reducible assumption | omega | assumption) (by first | with_reducible assumption | omega | assumption) (by first | with_reducible assumption | omega | assumption) (by first | with_reducible assumption | omega | assumption)) (gPw.preT (av := [.ref gb, .int (nI (t k))]) (cx := [(gb, .inr (6, [.ref hb, .ref b, .int (nI dw), .ref gn, .ref gv, .int (nI sd), .ref gk, .ref gr])), (gn, .inl (cQ, 12, .inr (.inr (.inr (.inr (fun i => some (na i))))))), (gk, .inl (cQ, n, .inr (.inr (.inr (.inr (fun i => some (ka i)))))))]) hK hN [0, 1, 2] rfl (by decide)) gX6_energy_X6_isOnlyFailure rfl rfl kd_X6_isOnlyFailure ⟨Nat.le_of_ble_eq_true rfl, Nat.le_of_ble_eq_true rfl⟩ (st := [.int (nI (1 + (3 * (ks_av P t n S (t k))))), .int (0 : Int32)]) rfl (Nat.le_of_ble_eq_true rfl) dX6_energy_39 ⟨by (try dsimp only); omega, by (try dsimp only); omega⟩) hA (fun _ h => h) [0, 1, 2] [] (wr := []) rfl rfl (by decide) (by decide) [0, 1, 2] (by decide) (fun _ => rfl) (fun u hu => ?_)
    refine g_bif_eq (tgt := 49) B dX6_energy_42 (by decide) (fun c4 => ?_) (fun c4 => ?_)
    · refine g_iconst (v := (0 : Int32)) B dX6_energy_49 (by decide) ?_
      refine g_iadd (v := nI (1 + (3 * (ks_av P t n S (t k))))) B dX6_energy_50 (nI_add (1 + (3 * (ks_av P t n S (t k)))) 0) ?_
      refine g_aload_n B dX6_energy_51 0 rfl ?_
      refine g_get (C := RX6) (T := TX6) (N := 8) (ci := 6) B hK hin_X6_energy_RX6 0 rfl rfl 6 (by decide) (List.mem_of_getElem? (i := 1) rfl) rfl (v := .ref gk) rfl dX6_energy_52 ?_
      refine g_iload_n B dX6_energy_55 1 rfl ?_
      refine g_qald B hK 2 3 rfl rfl k rfl (by omega) (by omega) (r := (ka k)) rfl dX6_energy_56 ?_
      refine g_iconst (v := (2 : Int32)) B dX6_energy_57 (by decide) ?_
      refine g_iald B hK _ 0 (tl_g4 (i := k) (by omega)) rfl 2 rfl (by omega) (by omega) (v := nI (mu k)) (rfl) dX6_energy_58 ?_
      refine g_isub (v := ((nI (1 + (3 * (ks_av P t n S (t k))))) - nI (mu k))) B dX6_energy_59 (rfl) ?_
      refine g_mmax (v := (if (0 : Int32) < ((nI (1 + (3 * (ks_av P t n S (t k))))) - nI (mu k)) then ((nI (1 + (3 * (ks_av P t n S (t k))))) - nI (mu k)) else (0 : Int32))) B (List.mem_of_getElem? (i := 2) rfl) (List.mem_of_getElem? (i := 3) rfl) (List.mem_of_getElem? (i := 4) rfl) (List.mem_of_getElem? (i := 5) rfl) (by first | decide | exact Nat.le_of_ble_eq_true rfl | ((try dsimp only); omega)) (by first | decide | exact Nat.le_of_ble_eq_true rfl | ((try dsimp only); omega)) (by first | decide | exact Nat.le_of_ble_eq_true rfl | ((try dsimp only); omega)) (by first | decide | exact Nat.le_of_ble_eq_true rfl | ((try dsimp only); omega)) dX6_energy_60 (rfl) ?_
      have ha := at_known (P := P) hap (show k < n by omega)
      have hz1 := at_av ha (by omega) (by omega) hS; have hz2 := at_of ha (by omega) (by omega) hS hW
      rw [c4] at hz2
      have w1 := ks_ed_le (ks_al (ks_F P t) k S); have w2 := hmu k
      refine g_eqi (y := nI (ks_en (ks_F P t) S mu k)) (by rw [show ks_en (ks_F P t) S mu k = 1 + 3 * ks_av P t n S (t k) + 0 - mu k from by unfold ks_en; rw [c1, if_pos rfl, hz1, if_pos (of_decide_eq_true ((Bool.not_eq_false' _).mp hz2.symm))]]; exact ks_max0 (by omega) (by omega)) ?_
      refine g_widen (k := 7 + 7 * n) (n := 156 + 156 * n) (by (try dsimp only); omega) (by (try dsimp only); omega) ?_
      refine g_subT (X2 := [(gb, .inr (6, [.ref hb, .ref b, .int (nI dw), .ref gn, .ref gv, .int (nI sd), .ref gk, .ref gr])), (gn, .inl (cQ, 12, .inr (.inr (.inr (.inr (fun i => some (na i))))))), (gk, .inl (cQ, n, .inr (.inr (.inr (.inr (fun i => some (ka i)))))))]) [0, 1, 2] (by decide) rfl ?_
      exact g_iret_x B hr rfl hlocks () (rfl) (trivial) rfl dX6_energy_63
    · refine g_iconst (v := (5 : Int32)) B dX6_energy_45 (by decide) ?_
      refine g_goto (tgt := 50) B dX6_energy_46 (by decide) ?_
      refine g_iadd (v := nI ((1 + (3 * (ks_av P t n S (t k)))) + 5)) B dX6_energy_50 (nI_add (1 + (3 * (ks_av P t n S (t k)))) 5) ?_
      refine g_aload_n B dX6_energy_51 0 rfl ?_
      refine g_get (C := RX6) (T := TX6) (N := 8) (ci := 6) B hK hin_X6_energy_RX6 0 rfl rfl 6 (by decide) (List.mem_of_getElem? (i := 1) rfl) rfl (v := .ref gk) rfl dX6_energy_52 ?_
      refine g_iload_n B dX6_energy_55 1 rfl ?_
      refine g_qald B hK 2 3 rfl rfl k rfl (by omega) (by omega) (r := (ka k)) rfl dX6_energy_56 ?_
      refine g_iconst (v := (2 : Int32)) B dX6_energy_57 (by decide) ?_
      refine g_iald B hK _ 0 (tl_g4 (i := k) (by omega)) rfl 2 rfl (by omega) (by omega) (v := nI (mu k)) (rfl) dX6_energy_58 ?_
      refine g_isub (v := ((nI ((1 + (3 * (ks_av P t n S (t k)))) + 5)) - nI (mu k))) B dX6_energy_59 (rfl) ?_
      refine g_mmax (v := (if (0 : Int32) < ((nI ((1 + (3 * (ks_av P t n S (t k)))) + 5)) - nI (mu k)) then ((nI ((1 + (3 * (ks_av P t n S (t k)))) + 5)) - nI (mu k)) else (0 : Int32))) B (List.mem_of_getElem? (i := 2) rfl) (List.mem_of_getElem? (i := 3) rfl) (List.mem_of_getElem? (i := 4) rfl) (List.mem_of_getElem? (i := 5) rfl) (by first | decide | exact Nat.le_of_ble_eq_true rfl | ((try dsimp only); omega)) (by first | decide | exact Nat.le_of_ble_eq_true rfl | ((try dsimp only); omega)) (by first | decide | exact Nat.le_of_ble_eq_true rfl | ((try dsimp only); omega)) (by first | decide | exact Nat.le_of_ble_eq_true rfl | ((try dsimp only); omega)) dX6_energy_60 (rfl) ?_
      have ha := at_known (P := P) hap (show k < n by omega)
      have hz1 := at_av ha (by omega) (by omega) hS; have hz2 := at_of ha (by omega) (by omega) hS hW
      rw [c4] at hz2
      have w1 := ks_ed_le (ks_al (ks_F P t) k S); have w2 := hmu k
      refine g_eqi (y := nI (ks_en (ks_F P t) S mu k)) (by rw [show ks_en (ks_F P t) S mu k = 1 + 3 * ks_av P t n S (t k) + 5 - mu k from by unfold ks_en; rw [c1, if_pos rfl, hz1, if_neg (of_decide_eq_false ((Bool.not_eq_true' _).mp hz2.symm))]]; exact ks_max0 (by omega) (by omega)) ?_
      refine g_widen (k := 7 + 7 * n) (n := 156 + 156 * n) (by (try dsimp only); omega) (by (try dsimp only); omega) ?_
      refine g_subT (X2 := [(gb, .inr (6, [.ref hb, .ref b, .int (nI dw), .ref gn, .ref gv, .int (nI sd), .ref gk, .ref gr])), (gn, .inl (cQ, 12, .inr (.inr (.inr (.inr (fun i => some (na i))))))), (gk, .inl (cQ, n, .inr (.inr (.inr (.inr (fun i => some (ka i)))))))]) [0, 1, 2] (by decide) rfl ?_
      exact g_iret_x B hr rfl hlocks () (rfl) (trivial) rfl dX6_energy_63
  · refine g_iconst (v := (0 : Int32)) B dX6_energy_11 (by decide) ?_
    refine g_widen (k := 7 + 7 * n) (n := 156 + 156 * n) (by (try dsimp only); omega) (by (try dsimp only); omega) ?_
    refine g_subT (X2 := [(gb, .inr (6, [.ref hb, .ref b, .int (nI dw), .ref gn, .ref gv, .int (nI sd), .ref gk, .ref gr])), (gn, .inl (cQ, 12, .inr (.inr (.inr (.inr (fun i => some (na i))))))), (gk, .inl (cQ, n, .inr (.inr (.inr (.inr (fun i => some (ka i)))))))]) [0, 1, 2] (by decide) rfl ?_
    exact g_iret_x B hr rfl hlocks () (by rw [show ks_en (ks_F P t) S mu k = 0 from by unfold ks_en; rw [c1]; rfl]; rfl) (trivial) rfl dX6_energy_12

