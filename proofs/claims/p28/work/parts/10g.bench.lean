/-! the bench: energies, draws -/
theorem kd_X6_drawn : yX6_drawn.cls ≠ "java/lang/invoke/MethodHandle" ∧ yX6_drawn.cls ≠ "java/lang/invoke/VarHandle" ∧ (parseMethodDescriptor yX6_drawn.desc).map (fun d => d.parameters.length) = some 1 := by decide +kernel
theorem kd_X6_tell : yX6_tell.cls ≠ "java/lang/invoke/MethodHandle" ∧ yX6_tell.cls ≠ "java/lang/invoke/VarHandle" ∧ (parseMethodDescriptor yX6_tell.desc).map (fun d => d.parameters.length) = some 1 := by decide +kernel
theorem hin_X6_drawn_RX6 : ∀ z ∈ u_ws RX6 TX6 8, z ∈ wsX6_drawn := by decide +kernel
theorem hin_X6_energy_RX6 : ∀ z ∈ u_ws RX6 TX6 8, z ∈ wsX6_energy := by decide +kernel
theorem hin_X6_make_RX6 : ∀ z ∈ u_ws RX6 TX6 8, z ∈ wsX6_make := by decide +kernel
set_option maxHeartbeats 4000000 in
set_option maxRecDepth 100000 in
theorem b_energy (l : Launch) {D : va_G} {cI cL cZ cQ : ClassId} (gb : Nat) (gn : Nat) (gv : Nat) (gk : Nat) (gr : Nat) (hb : Nat) (b : Nat) (dw : Nat) (sd : Nat) (na : Nat → Nat) (wa : Nat → Nat) (ra : Nat → Nat) (ka : Nat → Nat) (P : Pg) (W : Wg) (Q : Rg) (rc : Nat) (t : Nat → Nat) (n : Nat) (S : Int64) (mu : Nat → Nat) (k : Nat) (hW : ks_WP P) (hn16 : n ≤ 16) (ht4 : ∀ i, i < n → t i < 10000) (hap : ks_AP t n) (hS : ks_SK n S) (hmu : ∀ i, mu i < 1000) (hk : k < n) : WM l yX6_energy wsX6_energy ({ frames := 5, cells := 7 + 7 * n, slots := 156 + 156 * n, locals := 163 } : Room) D (gTys cI cL cZ cQ) [.ref gb, .int (nI k)] ([(gb, .inr (6, [.ref hb, .ref b, .int (nI dw), .ref gn, .ref gv, .int (nI sd), .ref gk, .ref gr])), (gn, .inl (cQ, 12, .inr (.inr (.inr (.inr (fun i => some (na i))))))), (gk, .inl (cQ, n, .inr (.inr (.inr (.inr (fun i => some (ka i)))))))] ++ (tl_T cI 12 na (ks_nr P) 4 wa (ks_wr W) rc ra (ks_rr Q) n ka (ks_kn t S mu))) (fun (_ : Unit) => True) (fun (_ : Unit) => some (.int (nI (ks_en (ks_F P t) S mu k)))) (fun (_ : Unit) => ([(gb, .inr (6, [.ref hb, .ref b, .int (nI dw), .ref gn, .ref gv, .int (nI sd), .ref gk, .ref gr])), (gn, .inl (cQ, 12, .inr (.inr (.inr (.inr (fun i => some (na i))))))), (gk, .inl (cQ, n, .inr (.inr (.inr (.inr (fun i => some (ka i)))))))] ++ (tl_T cI 12 na (ks_nr P) 4 wa (ks_wr W) rc ra (ks_rr Q) n ka (ks_kn t S mu)))) := by
  refine WM.ofG cX6_energy 2 (some .int) (by decide +kernel) rfl (Nat.le_of_ble_eq_true rfl) ?_
  intro p e s m below meth c A hA B hr hlocks hname hK hN
  have v2 := ht4 k hk
  have v3 : ks_av P t n S (t k) ≤ 24 := fb_ct_le _ _
  refine g_aload_n B dX6_energy_0 0 rfl ?_
  refine g_get (C := RX6) (T := TX6) (N := 8) (ci := 6) B hK hin_X6_energy_RX6 0 rfl rfl 6 (by decide) (List.mem_of_getElem? (i := 1) rfl) rfl (v := .ref gk) rfl dX6_energy_1 ?_
  refine g_iload_n B dX6_energy_4 1 rfl ?_
  refine g_qald B hK 2 3 rfl rfl k rfl (by omega) (by omega) (r := (ka k)) rfl dX6_energy_5 ?_
  refine g_iconst (v := (1 : Int32)) B dX6_energy_6 (by decide) ?_
  refine g_iald B hK _ 0 (tl_g4 (i := k) (by omega)) rfl 1 rfl (by omega) (by omega) (v := bI (hasB S k)) (rfl) dX6_energy_7 ?_
  refine g_bif_ne (tgt := 13) B dX6_energy_8 (by decide) (fun c1 => ?_) (fun c1 => ?_)
  · refine g_iconst (v := (0 : Int32)) B dX6_energy_13 (by decide) ?_
    refine g_iconst (v := (1 : Int32)) B dX6_energy_14 (by decide) ?_
    refine g_iconst (v := (3 : Int32)) B dX6_energy_15 (by decide) ?_
    refine g_aload_n B dX6_energy_16 0 rfl ?_
    refine g_aload_n B dX6_energy_17 0 rfl ?_
    refine g_get (C := RX6) (T := TX6) (N := 8) (ci := 6) B hK hin_X6_energy_RX6 0 rfl rfl 6 (by decide) (List.mem_of_getElem? (i := 1) rfl) rfl (v := .ref gk) rfl dX6_energy_18 ?_
    refine g_iload_n B dX6_energy_21 1 rfl ?_
    refine g_qald B hK 2 3 rfl rfl k rfl (by omega) (by omega) (r := (ka k)) rfl dX6_energy_22 ?_
    refine g_iconst (v := (0 : Int32)) B dX6_energy_23 (by decide) ?_
    refine g_iald B hK _ 0 (tl_g4 (i := k) (by omega)) rfl 0 rfl (by omega) (by omega) (v := nI (t k)) (rfl) dX6_energy_24 ?_
    refine g_callT (w2 := (fun (_ : Unit) => [(gb, .inr (6, [.ref hb, .ref b, .int (nI dw), .ref gn, .ref gv, .int (nI sd), .ref gk, .ref gr])), (gn, .inl (cQ, 12, .inr (.inr (.inr (.inr (fun i => some (na i))))))), (gk, .inl (cQ, n, .inr (.inr (.inr (.inr (fun i => some (ka i)))))))])) (Tx := (fun (_ : Unit) => (tl_T cI 12 na (ks_nr P) 4 wa (ks_wr W) rc ra (ks_rr Q) n ka (ks_kn t S mu)))) (rx := (fun (_ : Unit) => [(gb, .inr (6, [.ref hb, .ref b, .int (nI dw), .ref gn, .ref gv, .int (nI sd), .ref gk, .ref gr])), (gn, .inl (cQ, 12, .inr (.inr (.inr (.inr (fun i => some (na i))))))), (gk, .inl (cQ, n, .inr (.inr (.inr (.inr (fun i => some (ka i)))))))])) (g_runV (q0 := 0) (ci := 6) B hK rfl rfl (b_alone l (D := D) (cI := cI) (cL := cL) (cZ := cZ) (cQ := cQ) gb gn gv gk gr hb b dw sd na wa ra ka P W Q rc t n S mu (t k) (by first | assumption | omega) (by first | assumption | omega) (by first | assumption | omega) (by first | assumption | omega)) (gPw.preT (av := [.ref gb, .int (nI (t k))]) (cx := [(gb, .inr (6, [.ref hb, .ref b, .int (nI dw), .ref gn, .ref gv, .int (nI sd), .ref gk, .ref gr])), (gn, .inl (cQ, 12, .inr (.inr (.inr (.inr (fun i => some (na i))))))), (gk, .inl (cQ, n, .inr (.inr (.inr (.inr (fun i => some (ka i)))))))]) hK hN [0, 1, 2] rfl (by decide)) gX6_energy_X6_alone rfl rfl kd_X6_alone ⟨by decide, by decide⟩ (st := [.int (3 : Int32), .int (1 : Int32), .int (0 : Int32)]) rfl (Nat.le_of_ble_eq_true rfl) dX6_energy_25 ⟨by (try dsimp only); omega, by (try dsimp only); omega⟩) hA (fun _ h => h) [0, 1, 2] [] (wr := []) rfl rfl (by decide) (by decide) [0, 1, 2] (by decide) (fun _ => rfl) (fun u hu => ?_)
    refine g_imul (v := nI (3 * (ks_av P t n S t k))) B dX6_energy_28 (pk_mul 3 (ks_av P t n S t k)) ?_
    refine g_iadd (v := nI (1 + (3 * (ks_av P t n S t k)))) B dX6_energy_29 (nI_add 1 (3 * (ks_av P t n S t k))) ?_
    refine g_aload_n B dX6_energy_30 0 rfl ?_
    refine g_aload_n B dX6_energy_31 0 rfl ?_
    refine g_get (C := RX6) (T := TX6) (N := 8) (ci := 6) B hK hin_X6_energy_RX6 0 rfl rfl 6 (by decide) (List.mem_of_getElem? (i := 1) rfl) rfl (v := .ref gk) rfl dX6_energy_32 ?_
    refine g_iload_n B dX6_energy_35 1 rfl ?_
    refine g_qald B hK 2 3 rfl rfl k rfl (by omega) (by omega) (r := (ka k)) rfl dX6_energy_36 ?_
    refine g_iconst (v := (0 : Int32)) B dX6_energy_37 (by decide) ?_
    refine g_iald B hK _ 0 (tl_g4 (i := k) (by omega)) rfl 0 rfl (by omega) (by omega) (v := nI (t k)) (rfl) dX6_energy_38 ?_
    refine g_callT (w2 := (fun (_ : Unit) => [(gb, .inr (6, [.ref hb, .ref b, .int (nI dw), .ref gn, .ref gv, .int (nI sd), .ref gk, .ref gr])), (gn, .inl (cQ, 12, .inr (.inr (.inr (.inr (fun i => some (na i))))))), (gk, .inl (cQ, n, .inr (.inr (.inr (.inr (fun i => some (ka i)))))))])) (Tx := (fun (_ : Unit) => (tl_T cI 12 na (ks_nr P) 4 wa (ks_wr W) rc ra (ks_rr Q) n ka (ks_kn t S mu)))) (rx := (fun (_ : Unit) => [(gb, .inr (6, [.ref hb, .ref b, .int (nI dw), .ref gn, .ref gv, .int (nI sd), .ref gk, .ref gr])), (gn, .inl (cQ, 12, .inr (.inr (.inr (.inr (fun i => some (na i))))))), (gk, .inl (cQ, n, .inr (.inr (.inr (.inr (fun i => some (ka i)))))))])) (g_runV (q0 := 0) (ci := 6) B hK rfl rfl (b_isOnlyFailure l (D := D) (cI := cI) (cL := cL) (cZ := cZ) (cQ := cQ) gb gn gv gk gr hb b dw sd na wa ra ka P W Q rc t n S mu (t k) (by first | assumption | omega) (by first | assumption | omega) (by first | assumption | omega) (by first | assumption | omega)) (gPw.preT (av := [.ref gb, .int (nI (t k))]) (cx := [(gb, .inr (6, [.ref hb, .ref b, .int (nI dw), .ref gn, .ref gv, .int (nI sd), .ref gk, .ref gr])), (gn, .inl (cQ, 12, .inr (.inr (.inr (.inr (fun i => some (na i))))))), (gk, .inl (cQ, n, .inr (.inr (.inr (.inr (fun i => some (ka i)))))))]) hK hN [0, 1, 2] rfl (by decide)) gX6_energy_X6_isOnlyFailure rfl rfl kd_X6_isOnlyFailure ⟨by decide, by decide⟩ (st := [.int (nI (1 + (3 * (ks_av P t n S t k)))), .int (0 : Int32)]) rfl (Nat.le_of_ble_eq_true rfl) dX6_energy_39 ⟨by (try dsimp only); omega, by (try dsimp only); omega⟩) hA (fun _ h => h) [0, 1, 2] [] (wr := []) rfl rfl (by decide) (by decide) [0, 1, 2] (by decide) (fun _ => rfl) (fun u hu => ?_)
    refine g_bif_eq (tgt := 49) B dX6_energy_42 (by decide) (fun c4 => ?_) (fun c4 => ?_)
    · refine g_iconst (v := (0 : Int32)) B dX6_energy_49 (by decide) ?_
      refine g_iadd (v := nI (1 + (3 * (ks_av P t n S t k)))) B dX6_energy_50 (nI_add (1 + (3 * (ks_av P t n S t k))) 0) ?_
      refine g_aload_n B dX6_energy_51 0 rfl ?_
      refine g_get (C := RX6) (T := TX6) (N := 8) (ci := 6) B hK hin_X6_energy_RX6 0 rfl rfl 6 (by decide) (List.mem_of_getElem? (i := 1) rfl) rfl (v := .ref gk) rfl dX6_energy_52 ?_
      refine g_iload_n B dX6_energy_55 1 rfl ?_
      refine g_qald B hK 2 3 rfl rfl k rfl (by omega) (by omega) (r := (ka k)) rfl dX6_energy_56 ?_
      refine g_iconst (v := (2 : Int32)) B dX6_energy_57 (by decide) ?_
      refine g_iald B hK _ 0 (tl_g4 (i := k) (by omega)) rfl 2 rfl (by omega) (by omega) (v := nI (mu k)) (rfl) dX6_energy_58 ?_
      refine g_isub (v := nI ((1 + (3 * (ks_av P t n S t k))) - (mu k))) B dX6_energy_59 (pk_sub (by omega)) ?_
      refine g_mmax (v := (if (0 : Int32) < nI ((1 + (3 * (ks_av P t n S t k))) - (mu k)) then nI ((1 + (3 * (ks_av P t n S t k))) - (mu k)) else (0 : Int32))) B (List.mem_of_getElem? (i := 2) rfl) (List.mem_of_getElem? (i := 3) rfl) (List.mem_of_getElem? (i := 4) rfl) (List.mem_of_getElem? (i := 5) rfl) (by decide) (by decide) (by decide) (by decide) dX6_energy_60 (rfl) ?_
      have ha := at_known (P := P) hap (show k < n by omega)
      have hz1 := at_av ha (by omega) (by omega) hS; have hz2 := at_of ha (by omega) (by omega) hS hW
      rw [c4] at hz2
      have w1 := ks_ed_le (ks_al (ks_F P t) k S); have w2 := hmu k
      refine g_eqi (y := nI (ks_en (ks_F P t) S mu k)) (by rw [show ks_en (ks_F P t) S mu k = 1 + 3 * ks_av P t n S (t k) + 0 - mu k from by unfold ks_en; rw [c1, if_pos rfl, hz1, if_pos (of_decide_eq_true ((Bool.not_eq_false' _).mp hz2.symm))]]; exact ks_max0 (by omega) (by omega)) ?_
      refine g_widen (k := 7 + 7 * n) (n := 156 + 156 * n) (by (try dsimp only); omega) (by (try dsimp only); omega) ?_
      refine g_subT (X2 := [(gb, .inr (6, [.ref hb, .ref b, .int (nI dw), .ref gn, .ref gv, .int (nI sd), .ref gk, .ref gr])), (gn, .inl (cQ, 12, .inr (.inr (.inr (.inr (fun i => some (na i))))))), (gk, .inl (cQ, n, .inr (.inr (.inr (.inr (fun i => some (ka i)))))))]) [0, 1, 2] (by decide) rfl ?_
      exact g_iret_x B hr rfl hlocks () (by first | rfl | (rw [show ks_en (ks_F P t) S mu k = 0 from by unfold ks_en; rw [c4]; rfl]; rfl)) (trivial) rfl dX6_energy_63
    · refine g_iconst (v := (5 : Int32)) B dX6_energy_45 (by decide) ?_
      refine g_goto (tgt := 50) B dX6_energy_46 (by decide) ?_
      refine g_iadd (v := nI ((1 + (3 * (ks_av P t n S t k))) + 5)) B dX6_energy_50 (nI_add (1 + (3 * (ks_av P t n S t k))) 5) ?_
      refine g_aload_n B dX6_energy_51 0 rfl ?_
      refine g_get (C := RX6) (T := TX6) (N := 8) (ci := 6) B hK hin_X6_energy_RX6 0 rfl rfl 6 (by decide) (List.mem_of_getElem? (i := 1) rfl) rfl (v := .ref gk) rfl dX6_energy_52 ?_
      refine g_iload_n B dX6_energy_55 1 rfl ?_
      refine g_qald B hK 2 3 rfl rfl k rfl (by omega) (by omega) (r := (ka k)) rfl dX6_energy_56 ?_
      refine g_iconst (v := (2 : Int32)) B dX6_energy_57 (by decide) ?_
      refine g_iald B hK _ 0 (tl_g4 (i := k) (by omega)) rfl 2 rfl (by omega) (by omega) (v := nI (mu k)) (rfl) dX6_energy_58 ?_
      refine g_isub (v := nI (((1 + (3 * (ks_av P t n S t k))) + 5) - (mu k))) B dX6_energy_59 (pk_sub (by omega)) ?_
      refine g_mmax (v := (if (0 : Int32) < nI (((1 + (3 * (ks_av P t n S t k))) + 5) - (mu k)) then nI (((1 + (3 * (ks_av P t n S t k))) + 5) - (mu k)) else (0 : Int32))) B (List.mem_of_getElem? (i := 2) rfl) (List.mem_of_getElem? (i := 3) rfl) (List.mem_of_getElem? (i := 4) rfl) (List.mem_of_getElem? (i := 5) rfl) (by decide) (by decide) (by decide) (by decide) dX6_energy_60 (rfl) ?_
      have ha := at_known (P := P) hap (show k < n by omega)
      have hz1 := at_av ha (by omega) (by omega) hS; have hz2 := at_of ha (by omega) (by omega) hS hW
      rw [c4] at hz2
      have w1 := ks_ed_le (ks_al (ks_F P t) k S); have w2 := hmu k
      refine g_eqi (y := nI (ks_en (ks_F P t) S mu k)) (by rw [show ks_en (ks_F P t) S mu k = 1 + 3 * ks_av P t n S (t k) + 5 - mu k from by unfold ks_en; rw [c1, if_pos rfl, hz1, if_neg (of_decide_eq_false ((Bool.not_eq_true' _).mp hz2.symm))]]; exact ks_max0 (by omega) (by omega)) ?_
      refine g_widen (k := 7 + 7 * n) (n := 156 + 156 * n) (by (try dsimp only); omega) (by (try dsimp only); omega) ?_
      refine g_subT (X2 := [(gb, .inr (6, [.ref hb, .ref b, .int (nI dw), .ref gn, .ref gv, .int (nI sd), .ref gk, .ref gr])), (gn, .inl (cQ, 12, .inr (.inr (.inr (.inr (fun i => some (na i))))))), (gk, .inl (cQ, n, .inr (.inr (.inr (.inr (fun i => some (ka i)))))))]) [0, 1, 2] (by decide) rfl ?_
      exact g_iret_x B hr rfl hlocks () (by first | rfl | (rw [show ks_en (ks_F P t) S mu k = 0 from by unfold ks_en; rw [c4]; rfl]; rfl)) (trivial) rfl dX6_energy_63
  · refine g_iconst (v := (0 : Int32)) B dX6_energy_11 (by decide) ?_
    refine g_widen (k := 7 + 7 * n) (n := 156 + 156 * n) (by (try dsimp only); omega) (by (try dsimp only); omega) ?_
    refine g_subT (X2 := [(gb, .inr (6, [.ref hb, .ref b, .int (nI dw), .ref gn, .ref gv, .int (nI sd), .ref gk, .ref gr])), (gn, .inl (cQ, 12, .inr (.inr (.inr (.inr (fun i => some (na i))))))), (gk, .inl (cQ, n, .inr (.inr (.inr (.inr (fun i => some (ka i)))))))]) [0, 1, 2] (by decide) rfl ?_
    exact g_iret_x B hr rfl hlocks () (by first | rfl | (rw [show ks_en (ks_F P t) S mu k = 0 from by unfold ks_en; rw [c1]; rfl]; rfl)) (trivial) rfl dX6_energy_12

set_option maxHeartbeats 4000000 in
set_option maxRecDepth 100000 in
theorem b_drawn (l : Launch) {D : va_G} {cI cL cZ cQ : ClassId} (gb : Nat) (gn : Nat) (gv : Nat) (gk : Nat) (gr : Nat) (hb : Nat) (dw : Nat) (sd : Nat) (b : Nat) (nn : Nat) (hsd : sd < 10000) (h1 : 0 < nn) (h2 : nn < 2 ^ 31) : WM l yX6_drawn wsX6_drawn ({ frames := 0, cells := 0, slots := 0, locals := 0 } : Room) D (gTys cI cL cZ cQ) [.ref gb, .int (nI nn)] [(gb, .inr (6, [.ref hb, .ref b, .int (nI dw), .ref gn, .ref gv, .int (nI sd), .ref gk, .ref gr]))] (fun (_ : Unit) => True) (fun (_ : Unit) => some (.int (nI (ks_dr sd / 100 % nn)))) (fun (_ : Unit) => [(gb, .inr (6, [.ref hb, .ref b, .int (nI dw), .ref gn, .ref gv, .int (nI (ks_dr sd)), .ref gk, .ref gr]))]) := by
  refine WM.ofG cX6_drawn 2 (some .int) (by decide +kernel) rfl (Nat.le_of_ble_eq_true rfl) ?_
  intro p e s m below meth c A hA B hr hlocks hname hK hN
  have w1 := ks_dr_lt sd
  refine g_aload_n B dX6_drawn_0 0 rfl ?_
  refine g_sipush (v := (421 : Int32)) B dX6_drawn_1 (by decide) ?_
  refine g_aload_n B dX6_drawn_4 0 rfl ?_
  refine g_get (C := RX6) (T := TX6) (N := 8) (ci := 6) B hK hin_X6_drawn_RX6 0 rfl rfl 5 (by decide) (List.mem_of_getElem? (i := 1) rfl) rfl (v := .int (nI sd)) rfl dX6_drawn_5 ?_
  refine g_imul (v := nI (421 * sd)) B dX6_drawn_8 (pk_mul 421 sd) ?_
  refine g_sipush (v := (1663 : Int32)) B dX6_drawn_9 (by decide) ?_
  refine g_iadd (v := nI ((421 * sd) + 1663)) B dX6_drawn_12 (nI_add (421 * sd) 1663) ?_
  refine g_sipush (v := (10000 : Int32)) B dX6_drawn_13 (by decide) ?_
  refine g_irem (v := nI (((421 * sd) + 1663) % 10000)) B dX6_drawn_16 (by decide) (pk_rem (a := (421 * sd) + 1663) (d := 10000) (by omega) (by decide) (by decide)) ?_
  refine g_eqi (y := nI (ks_dr sd)) (by rw [dr_comm]) ?_
  refine g_put (C := RX6) (T := TX6) (N := 8) (ci := 6) B hK hin_X6_drawn_RX6 0 rfl rfl 5 (by decide) tyX6 tyX6_ok nmX6 (List.mem_of_getElem? (i := 1) rfl) rfl rfl (ty := .int) (v := .int (nI (ks_dr sd))) (by decide +kernel) rfl rfl (Nat.le_of_ble_eq_true rfl) (w2 := [(gb, .inr (6, [.ref hb, .ref b, .int (nI dw), .ref gn, .ref gv, .int (nI (ks_dr sd)), .ref gk, .ref gr]))]) rfl (fun _ h => h) dX6_drawn_17 ?_
  refine g_aload_n B dX6_drawn_20 0 rfl ?_
  refine g_get (C := RX6) (T := TX6) (N := 8) (ci := 6) B hK hin_X6_drawn_RX6 0 rfl rfl 5 (by decide) (List.mem_of_getElem? (i := 1) rfl) rfl (v := .int (nI (ks_dr sd))) rfl dX6_drawn_21 ?_
  refine g_bipush (v := (100 : Int32)) B dX6_drawn_24 (by decide) ?_
  refine g_idiv (v := nI ((ks_dr sd) / 100)) B dX6_drawn_26 (by decide) (pk_div (a := ks_dr sd) (d := 100) (by omega) (by decide) (by decide)) ?_
  refine g_iload_n B dX6_drawn_27 1 rfl ?_
  refine g_irem (v := nI (((ks_dr sd) / 100) % nn)) B dX6_drawn_28 (nI_ne0 (by omega) (by omega)) (pk_rem (a := (ks_dr sd) / 100) (d := nn) (by omega) (by omega) (by omega)) ?_
  exact g_iret_w B hr rfl hlocks () (rfl) (trivial) [0] (by decide) rfl dX6_drawn_29

set_option maxHeartbeats 4000000 in
set_option maxRecDepth 100000 in
theorem b_make (l : Launch) {D : va_G} {cI cL cZ cQ : ClassId} (gb : Nat) (gn : Nat) (gv : Nat) (gk : Nat) (gr : Nat) (hb : Nat) (b : Nat) (dw : Nat) (sd : Nat) (na : Nat → Nat) (wa : Nat → Nat) (ra : Nat → Nat) (ka : Nat → Nat) (P : Pg) (W : Wg) (Q : Rg) (rc : Nat) (t : Nat → Nat) (n : Nat) (S : Int64) (mu : Nat → Nat) (hw : ks_WW W) (hsd : sd < 10000) : WM l yX6_make wsX6_make ({ frames := 1, cells := 1, slots := 4, locals := 21 } : Room) D (gTys cI cL cZ cQ) [.ref gb] ([(gb, .inr (6, [.ref hb, .ref b, .int (nI dw), .ref gn, .ref gv, .int (nI sd), .ref gk, .ref gr])), (gv, .inl (cQ, 4, .inr (.inr (.inr (.inr (fun i => some (wa i)))))))] ++ (tl_T cI 12 na (ks_nr P) 4 wa (ks_wr W) rc ra (ks_rr Q) n ka (ks_kn t S mu))) (fun (_ : Unit) => True) (fun (_ : Unit) => some (.int (nI ((ks_nc W sd).1)))) (fun (_ : Unit) => ([(gb, .inr (6, [.ref hb, .ref b, .int (nI dw), .ref gn, .ref gv, .int (nI ((ks_nc W sd).2)), .ref gk, .ref gr])), (gv, .inl (cQ, 4, .inr (.inr (.inr (.inr (fun i => some (wa i)))))))] ++ (tl_T cI 12 na (ks_nr P) 4 wa (ks_wr W) rc ra (ks_rr Q) n ka (ks_kn t S mu)))) := by
  refine WM.ofG cX6_make 7 (some .int) (by decide +kernel) rfl (Nat.le_of_ble_eq_true rfl) ?_
  intro p e s m below meth c A hA B hr hlocks hname hK hN
  refine g_iconst (v := (4 : Int32)) B dX6_make_0 (by decide) ?_
  refine g_newa B hK hA 0 rfl rfl (List.mem_of_getElem? (i := 1) rfl) rfl (4, .inl (fun _ => (0 : Int32))) (cellI_new 4) (by decide) (by decide) (by decide) (by decide) (by decide) dX6_make_1 (fun q1 => ?_)
  refine g_perm (tl_sw _ _ _) ?_
  refine g_eqw (w2 := ([(gb, .inr (6, [.ref hb, .ref b, .int (nI dw), .ref gn, .ref gv, .int (nI sd), .ref gk, .ref gr])), (gv, .inl (cQ, 4, .inr (.inr (.inr (.inr (fun i => some (wa i))))))), (q1, .inl (cI, 4, .inl (fun _ => (0 : Int32))))] ++ (tl_T cI 12 na (ks_nr P) 4 wa (ks_wr W) rc ra (ks_rr Q) n ka (ks_kn t S mu)))) rfl ?_
  refine g_astore_n (lv' := [(0, .ref gb), (1, .ref q1)]) B dX6_make_3 rfl (by decide) [1, 0] rfl ?_
  refine g_eqw (w2 := ([(gb, .inr (6, [.ref hb, .ref b, .int (nI dw), .ref gn, .ref gv, .int (nI sd), .ref gk, .ref gr])), (gv, .inl (cQ, 4, .inr (.inr (.inr (.inr (fun i => some (wa i))))))), (q1, .inl (cI, 4, .inl (fun i => nI ((fun _ => 0) i))))] ++ (tl_T cI 12 na (ks_nr P) 4 wa (ks_wr W) rc ra (ks_rr Q) n ka (ks_kn t S mu)))) rfl ?_
  refine g_iconst (v := (0 : Int32)) B dX6_make_4 (by decide) ?_
  refine g_istore_n (lv' := [(0, .ref gb), (1, .ref q1), (2, .int (0 : Int32))]) B dX6_make_5 rfl (by decide) [1, 2, 0] rfl ?_
  refine g_widen (k := 1) (n := 4) (by (try dsimp only); omega) (by (try dsimp only); omega) ?_
  refine g_loop (σ := Nat × (Nat → Nat)) (fun x9 => x9.1 ≤ 4 ∧ (∀ j, j < x9.1 → x9.2 j = (ks_nv W (ks_nk W sd j).2 j).1) ∧ ∀ j, x9.1 ≤ j → x9.2 j = 0) (fun x9 => 5 - x9.1) (fun x9 => 1) (fun x9 => 4) (fun x9 => ([(gb, .inr (6, [.ref hb, .ref b, .int (nI dw), .ref gn, .ref gv, .int (nI ((ks_nk W sd x9.1).2)), .ref gk, .ref gr])), (gv, .inl (cQ, 4, .inr (.inr (.inr (.inr (fun i => some (wa i))))))), (q1, .inl (cI, 4, .inl (fun i => nI (x9.2 i))))] ++ (tl_T cI 12 na (ks_nr P) 4 wa (ks_wr W) rc ra (ks_rr Q) n ka (ks_kn t S mu)))) (fun x9 => [(0, .ref gb), (1, .ref q1), (2, .int (nI x9.1))]) (fun x9 hI ih6 => ?_) (0, (fun _ => 0)) (⟨by omega, fun j h => absurd h (Nat.not_lt_zero j), fun j _ => rfl⟩) rfl rfl rfl rfl
  obtain ⟨k, gm⟩ := x9
  try dsimp only at hI ih6 ⊢
  obtain ⟨i1, i2, i3⟩ := hI
  have v0 := ks_nk_2 (W := W) hsd k
  have v1 := hw k
  have v2 := ks_dr_lt (ks_nk W sd k).2
  have v3 := ks_dr_lt (ks_dr (ks_nk W sd k).2)
  have v4 : ks_ws W k = W.1 k + W.2.1 k + W.2.2 k := rfl
  refine g_iload_n B dX6_make_6 2 rfl ?_
  refine g_iconst (v := (4 : Int32)) B dX6_make_7 (by decide) ?_
  refine g_ncmp_ge (tgt := 135) B k 4 rfl rfl (by omega) (by omega) dX6_make_8 (by decide) (fun c2 => ?_) (fun c2 => ?_)
  · refine g_aload_n B dX6_make_135 1 rfl ?_
    have hk4 : k = 4 := by omega
    refine g_eqw (w2 := ([(gb, .inr (6, [.ref hb, .ref b, .int (nI dw), .ref gn, .ref gv, .int (nI ((ks_nc W sd).2)), .ref gk, .ref gr])), (gv, .inl (cQ, 4, .inr (.inr (.inr (.inr (fun i => some (wa i))))))), (q1, .inl (cI, 4, .inl (fun i => nI (gm i))))] ++ (tl_T cI 12 na (ks_nr P) 4 wa (ks_wr W) rc ra (ks_rr Q) n ka (ks_kn t S mu)))) (by rw [hk4]; rfl) ?_
    refine g_callP (g_runS B (PM.met (b_tell l (D := D) (cI := cI) (cL := cL) (cZ := cZ) (cQ := cQ) q1 gm )) (gPp.pre (av := [.ref q1]) (wc := [(q1, .inl (cI, 4, .inl (fun i => nI (gm i))))]) hK hN [2] rfl (by decide)) gX6_make_X6_tell rfl kd_X6_tell ⟨by decide, by decide⟩ (st := []) rfl (Nat.le_of_ble_eq_true rfl) dX6_make_136 ⟨by (try dsimp only); omega, by (try dsimp only); omega⟩) (fun u hu => ?_)
    refine g_eqi (y := nI (ks_nc W sd).1) (by rw [tl_nk (W := W) (sd := sd) (fun j hj => i2 j (by omega))]) ?_
    refine g_widen (k := 1) (n := 4) (by (try dsimp only); omega) (by (try dsimp only); omega) ?_
    refine g_subT (X2 := [(gb, .inr (6, [.ref hb, .ref b, .int (nI dw), .ref gn, .ref gv, .int (nI ((ks_nc W sd).2)), .ref gk, .ref gr])), (gv, .inl (cQ, 4, .inr (.inr (.inr (.inr (fun i => some (wa i)))))))]) [0, 1] (by decide) rfl ?_
    exact g_iret_x B hr rfl hlocks () (rfl) (trivial) rfl dX6_make_139
  · refine g_aload_n B dX6_make_11 0 rfl ?_
    refine g_get (C := RX6) (T := TX6) (N := 8) (ci := 6) B hK hin_X6_make_RX6 0 rfl rfl 4 (by decide) (List.mem_of_getElem? (i := 2) rfl) rfl (v := .ref gv) rfl dX6_make_12 ?_
    refine g_iload_n B dX6_make_15 2 rfl ?_
    refine g_qald B hK 1 3 rfl rfl k rfl (by omega) (by omega) (r := (wa k)) rfl dX6_make_16 ?_
    refine g_astore_n (lv' := [(0, .ref gb), (1, .ref q1), (2, .int (nI k)), (3, .ref (wa k))]) B dX6_make_17 rfl (by decide) [1, 2, 3, 0] rfl ?_
    refine g_aload_n B dX6_make_18 3 rfl ?_
    refine g_iconst (v := (0 : Int32)) B dX6_make_19 (by decide) ?_
    refine g_iald B hK _ 0 (tl_g2 (i := k) (by omega)) rfl 0 rfl (by omega) (by omega) (v := nI (W.1 k)) (rfl) dX6_make_20 ?_
    refine g_aload_n B dX6_make_21 3 rfl ?_
    refine g_iconst (v := (1 : Int32)) B dX6_make_22 (by decide) ?_
    refine g_iald B hK _ 0 (tl_g2 (i := k) (by omega)) rfl 1 rfl (by omega) (by omega) (v := nI (W.2.1 k)) (rfl) dX6_make_23 ?_
    refine g_iadd (v := nI ((W.1 k) + (W.2.1 k))) B dX6_make_24 (nI_add (W.1 k) (W.2.1 k)) ?_
    refine g_aload_n B dX6_make_25 3 rfl ?_
    refine g_iconst (v := (2 : Int32)) B dX6_make_26 (by decide) ?_
    refine g_iald B hK _ 0 (tl_g2 (i := k) (by omega)) rfl 2 rfl (by omega) (by omega) (v := nI (W.2.2 k)) (rfl) dX6_make_27 ?_
    refine g_iadd (v := nI (((W.1 k) + (W.2.1 k)) + (W.2.2 k))) B dX6_make_28 (nI_add ((W.1 k) + (W.2.1 k)) (W.2.2 k)) ?_
    refine g_nif_ne (tgt := 35) B (((W.1 k) + (W.2.1 k)) + (W.2.2 k)) rfl (by omega) dX6_make_29 (by decide) (fun c4 => ?_) (fun c4 => ?_)
    · refine g_aload_n B dX6_make_35 0 rfl ?_
      refine g_aload_n B dX6_make_36 3 rfl ?_
      refine g_iconst (v := (0 : Int32)) B dX6_make_37 (by decide) ?_
      refine g_iald B hK _ 0 (tl_g2 (i := k) (by omega)) rfl 0 rfl (by omega) (by omega) (v := nI (W.1 k)) (rfl) dX6_make_38 ?_
      refine g_aload_n B dX6_make_39 3 rfl ?_
      refine g_iconst (v := (1 : Int32)) B dX6_make_40 (by decide) ?_
      refine g_iald B hK _ 0 (tl_g2 (i := k) (by omega)) rfl 1 rfl (by omega) (by omega) (v := nI (W.2.1 k)) (rfl) dX6_make_41 ?_
      refine g_iadd (v := nI ((W.1 k) + (W.2.1 k))) B dX6_make_42 (nI_add (W.1 k) (W.2.1 k)) ?_
      refine g_aload_n B dX6_make_43 3 rfl ?_
      refine g_iconst (v := (2 : Int32)) B dX6_make_44 (by decide) ?_
      refine g_iald B hK _ 0 (tl_g2 (i := k) (by omega)) rfl 2 rfl (by omega) (by omega) (v := nI (W.2.2 k)) (rfl) dX6_make_45 ?_
      refine g_iadd (v := nI (((W.1 k) + (W.2.1 k)) + (W.2.2 k))) B dX6_make_46 (nI_add ((W.1 k) + (W.2.1 k)) (W.2.2 k)) ?_
      refine g_callU (w2 := (fun (_ : Unit) => [(gb, .inr (6, [.ref hb, .ref b, .int (nI dw), .ref gn, .ref gv, .int (nI (ks_dr ((ks_nk W sd k).2))), .ref gk, .ref gr])), (gv, .inl (cQ, 4, .inr (.inr (.inr (.inr (fun i => some (wa i))))))), (q1, .inl (cI, 4, .inl (fun i => nI (gm i))))])) (g_runV (q0 := 0) (ci := 6) B hK rfl rfl (b_drawn l (D := D) (cI := cI) (cL := cL) (cZ := cZ) (cQ := cQ) gb gn gv gk gr hb dw ((ks_nk W sd k).2) b (((W.1 k) + (W.2.1 k)) + (W.2.2 k)) (by first | assumption | omega) (by first | assumption | omega) (by first | assumption | omega)) (gPw.pre (av := [.ref gb, .int (nI (((W.1 k) + (W.2.1 k)) + (W.2.2 k)))]) (wc := [(gb, .inr (6, [.ref hb, .ref b, .int (nI dw), .ref gn, .ref gv, .int (nI ((ks_nk W sd k).2)), .ref gk, .ref gr]))]) hK hN [0] rfl (by decide)) gX6_make_X6_drawn rfl rfl kd_X6_drawn ⟨by decide, by decide⟩ (st := []) rfl (Nat.le_of_ble_eq_true rfl) dX6_make_47 ⟨by (try dsimp only); omega, by (try dsimp only); omega⟩) hA (fun _ h => h) [0] [1, 2] (wr := [(gv, .inl (cQ, 4, .inr (.inr (.inr (.inr (fun i => some (wa i))))))), (q1, .inl (cI, 4, .inl (fun i => nI (gm i))))]) rfl rfl (by decide) (by decide) [2, 0, 1] (by decide) (fun _ => rfl) (fun u hu => ?_)
      refine g_istore (lv' := [(0, .ref gb), (1, .ref q1), (2, .int (nI k)), (3, .ref (wa k)), (4, .int (nI (ks_dr (ks_nk W sd k).2 / 100 % ((W.1 k) + (W.2.1 k)) + (W.2.2 k))))]) B dX6_make_50 (by decide) [1, 2, 3, 4, 0] rfl ?_
      refine g_iload B dX6_make_52 4 rfl ?_
      refine g_aload_n B dX6_make_54 3 rfl ?_
      refine g_iconst (v := (0 : Int32)) B dX6_make_55 (by decide) ?_
      refine g_iald B hK _ 0 (tl_g2 (i := k) (by omega)) rfl 0 rfl (by omega) (by omega) (v := nI (W.1 k)) (rfl) dX6_make_56 ?_
      refine g_ncmp_ge (tgt := 64) B (ks_dr (ks_nk W sd k).2 / 100 % ((W.1 k) + (W.2.1 k)) + (W.2.2 k)) (W.1 k) rfl rfl (by omega) (by omega) dX6_make_57 (by decide) (fun c6 => ?_) (fun c6 => ?_)
      · refine g_iconst (v := (0 : Int32)) B dX6_make_64 (by decide) ?_
        refine g_istore (lv' := [(0, .ref gb), (1, .ref q1), (2, .int (nI k)), (3, .ref (wa k)), (4, .int (nI (ks_dr (ks_nk W sd k).2 / 100 % ((W.1 k) + (W.2.1 k)) + (W.2.2 k)))), (5, .int (0 : Int32))]) B dX6_make_65 (by decide) [1, 2, 3, 4, 5, 0] rfl ?_
        refine g_iload B dX6_make_67 4 rfl ?_
        refine g_aload_n B dX6_make_69 3 rfl ?_
        refine g_iconst (v := (0 : Int32)) B dX6_make_70 (by decide) ?_
        refine g_iald B hK _ 0 (tl_g2 (i := k) (by omega)) rfl 0 rfl (by omega) (by omega) (v := nI (W.1 k)) (rfl) dX6_make_71 ?_
        refine g_aload_n B dX6_make_72 3 rfl ?_
        refine g_iconst (v := (1 : Int32)) B dX6_make_73 (by decide) ?_
        refine g_iald B hK _ 0 (tl_g2 (i := k) (by omega)) rfl 1 rfl (by omega) (by omega) (v := nI (W.2.1 k)) (rfl) dX6_make_74 ?_
        refine g_iadd (v := nI ((W.1 k) + (W.2.1 k))) B dX6_make_75 (nI_add (W.1 k) (W.2.1 k)) ?_
        refine g_ncmp_lt (tgt := 83) B (ks_dr (ks_nk W sd k).2 / 100 % ((W.1 k) + (W.2.1 k)) + (W.2.2 k)) ((W.1 k) + (W.2.1 k)) rfl rfl (by omega) (by omega) dX6_make_76 (by decide) (fun c7 => ?_) (fun c7 => ?_)
        · refine g_iconst (v := (0 : Int32)) B dX6_make_83 (by decide) ?_
          refine g_istore (lv' := [(0, .ref gb), (1, .ref q1), (2, .int (nI k)), (3, .ref (wa k)), (4, .int (nI (ks_dr (ks_nk W sd k).2 / 100 % ((W.1 k) + (W.2.1 k)) + (W.2.2 k)))), (5, .int (0 : Int32)), (6, .int (0 : Int32))]) B dX6_make_84 (by decide) [1, 2, 3, 4, 5, 6, 0] rfl ?_
          refine g_aload_n B dX6_make_86 1 rfl ?_
          refine g_iload_n B dX6_make_87 2 rfl ?_
          refine g_iload B dX6_make_88 5 rfl ?_
          refine g_if_eq (tgt := 97) B dX6_make_90 (by decide) (fun _ => ?_) (fun c8 => absurd (by decide) c8)
          refine g_iload B dX6_make_97 6 rfl ?_
          refine g_if_eq (tgt := 107) B dX6_make_99 (by decide) (fun _ => ?_) (fun c9 => absurd (by decide) c9)
          refine g_iconst (v := (3 : Int32)) B dX6_make_107 (by decide) ?_
          refine g_aload_n B dX6_make_108 0 rfl ?_
          refine g_iload B dX6_make_109 5 rfl ?_
          refine g_if_ne (tgt := 119) B dX6_make_111 (by decide) (fun c10 => absurd (by decide) c10) (fun _ => ?_)
          refine g_iload B dX6_make_114 6 rfl ?_
          refine g_if_eq (tgt := 123) B dX6_make_116 (by decide) (fun _ => ?_) (fun c11 => absurd (by decide) c11)
          refine g_iconst (v := (4 : Int32)) B dX6_make_123 (by decide) ?_
          refine g_callU (w2 := (fun (_ : Unit) => [(gb, .inr (6, [.ref hb, .ref b, .int (nI dw), .ref gn, .ref gv, .int (nI (ks_dr (ks_dr ((ks_nk W sd k).2)))), .ref gk, .ref gr])), (gv, .inl (cQ, 4, .inr (.inr (.inr (.inr (fun i => some (wa i))))))), (q1, .inl (cI, 4, .inl (fun i => nI (gm i))))])) (g_runV (q0 := 0) (ci := 6) B hK rfl rfl (b_drawn l (D := D) (cI := cI) (cL := cL) (cZ := cZ) (cQ := cQ) gb gn gv gk gr hb dw (ks_dr ((ks_nk W sd k).2)) b 4 (by first | assumption | omega) (by first | assumption | omega) (by first | assumption | omega)) (gPw.pre (av := [.ref gb, .int (4 : Int32)]) (wc := [(gb, .inr (6, [.ref hb, .ref b, .int (nI dw), .ref gn, .ref gv, .int (nI (ks_dr ((ks_nk W sd k).2))), .ref gk, .ref gr]))]) hK hN [0] rfl (by decide)) gX6_make_X6_drawn rfl rfl kd_X6_drawn ⟨by decide, by decide⟩ (st := [.int (3 : Int32), .int (nI k), .ref q1]) rfl (Nat.le_of_ble_eq_true rfl) dX6_make_124 ⟨by (try dsimp only); omega, by (try dsimp only); omega⟩) hA (fun _ h => h) [0] [1, 2] (wr := [(gv, .inl (cQ, 4, .inr (.inr (.inr (.inr (fun i => some (wa i))))))), (q1, .inl (cI, 4, .inl (fun i => nI (gm i))))]) rfl rfl (by decide) (by decide) [2, 0, 1] (by decide) (fun _ => rfl) (fun u hu => ?_)
          refine g_iadd (v := nI (3 + (ks_dr ks_dr ((ks_nk W sd k).2) / 100 % 4))) B dX6_make_127 (nI_add 3 (ks_dr ks_dr ((ks_nk W sd k).2) / 100 % 4)) ?_
          refine g_iast B hK 2 0 rfl rfl k rfl (by omega) (by omega) (f2 := (fun i => nI ((updN gm k (3 + (ks_dr ks_dr ((ks_nk W sd k).2) / 100 % 4))) i))) (upd_nI _ _ _) (w2 := ([(gb, .inr (6, [.ref hb, .ref b, .int (nI dw), .ref gn, .ref gv, .int (nI (ks_dr (ks_dr ((ks_nk W sd k).2)))), .ref gk, .ref gr])), (gv, .inl (cQ, 4, .inr (.inr (.inr (.inr (fun i => some (wa i))))))), (q1, .inl (cI, 4, .inl (fun i => nI ((updN gm k (3 + (ks_dr ks_dr ((ks_nk W sd k).2) / 100 % 4))) i))))] ++ (tl_T cI 12 na (ks_nr P) 4 wa (ks_wr W) rc ra (ks_rr Q) n ka (ks_kn t S mu)))) rfl (fun _ h => h) dX6_make_128 ?_
          have hv : ks_nv W (ks_nk W sd k).2 k = (3 + (ks_dr ks_dr ((ks_nk W sd k).2) / 100 % 4), ks_dr (ks_dr ((ks_nk W sd k).2))) := by unfold ks_nv; rw [v4]; simp [c4, c6, c7]; try omega
          refine g_eqw (w2 := ([(gb, .inr (6, [.ref hb, .ref b, .int (nI dw), .ref gn, .ref gv, .int (nI ((ks_nk W sd (k + 1)).2)), .ref gk, .ref gr])), (gv, .inl (cQ, 4, .inr (.inr (.inr (.inr (fun i => some (wa i))))))), (q1, .inl (cI, 4, .inl (fun i => nI ((updN gm k (3 + (ks_dr ks_dr ((ks_nk W sd k).2) / 100 % 4))) i))))] ++ (tl_T cI 12 na (ks_nr P) 4 wa (ks_wr W) rc ra (ks_rr Q) n ka (ks_kn t S mu)))) (by rw [show (ks_nk W sd (k + 1)).2 = (ks_nv W (ks_nk W sd k).2 k).2 from rfl, hv]) ?_
          refine g_iinc (lv' := [(0, .ref gb), (1, .ref q1), (2, .int (nI (k + 1))), (3, .ref (wa k)), (4, .int (nI (ks_dr (ks_nk W sd k).2 / 100 % ((W.1 k) + (W.2.1 k)) + (W.2.2 k)))), (5, .int (0 : Int32)), (6, .int (0 : Int32))]) B dX6_make_129 2 rfl (nI_1 k) (by decide) [1, 2, 0, 3, 4, 5, 6] rfl ?_
          refine g_goto (tgt := 6) B dX6_make_132 (by decide) ?_
          refine g_widen (k := 1) (n := 4) (by (try dsimp only); omega) (by (try dsimp only); omega) ?_
          exact g_pick [0, 1, 2] rfl (ih6 (k + 1, (updN gm k (3 + (ks_dr ks_dr ((ks_nk W sd k).2) / 100 % 4)))) (⟨by omega, lt_s (p := fun j => updN gm k _ j = (ks_nv W (ks_nk W sd j).2 j).1) (fun a ha => by rw [updN_ne (by omega)]; exact i2 a ha) (by rw [updN_at, hv]), fun j hj => by rw [updN_ne (by omega)]; exact i3 j (by omega)⟩) (by (try dsimp only); omega))
        · refine g_iconst (v := (1 : Int32)) B dX6_make_79 (by decide) ?_
          refine g_goto (tgt := 84) B dX6_make_80 (by decide) ?_
          refine g_istore (lv' := [(0, .ref gb), (1, .ref q1), (2, .int (nI k)), (3, .ref (wa k)), (4, .int (nI (ks_dr (ks_nk W sd k).2 / 100 % ((W.1 k) + (W.2.1 k)) + (W.2.2 k)))), (5, .int (0 : Int32)), (6, .int (1 : Int32))]) B dX6_make_84 (by decide) [1, 2, 3, 4, 5, 6, 0] rfl ?_
          refine g_aload_n B dX6_make_86 1 rfl ?_
          refine g_iload_n B dX6_make_87 2 rfl ?_
          refine g_iload B dX6_make_88 5 rfl ?_
          refine g_if_eq (tgt := 97) B dX6_make_90 (by decide) (fun _ => ?_) (fun c13 => absurd (by decide) c13)
          refine g_iload B dX6_make_97 6 rfl ?_
          refine g_if_eq (tgt := 107) B dX6_make_99 (by decide) (fun c14 => absurd c14 (by decide)) (fun _ => ?_)
          refine g_bipush (v := (7 : Int32)) B dX6_make_102 (by decide) ?_
          refine g_goto (tgt := 108) B dX6_make_104 (by decide) ?_
          refine g_aload_n B dX6_make_108 0 rfl ?_
          refine g_iload B dX6_make_109 5 rfl ?_
          refine g_if_ne (tgt := 119) B dX6_make_111 (by decide) (fun c15 => absurd (by decide) c15) (fun _ => ?_)
          refine g_iload B dX6_make_114 6 rfl ?_
          refine g_if_eq (tgt := 123) B dX6_make_116 (by decide) (fun c16 => absurd c16 (by decide)) (fun _ => ?_)
          refine g_iconst (v := (3 : Int32)) B dX6_make_119 (by decide) ?_
          refine g_goto (tgt := 124) B dX6_make_120 (by decide) ?_
          refine g_callU (w2 := (fun (_ : Unit) => [(gb, .inr (6, [.ref hb, .ref b, .int (nI dw), .ref gn, .ref gv, .int (nI (ks_dr (ks_dr ((ks_nk W sd k).2)))), .ref gk, .ref gr])), (gv, .inl (cQ, 4, .inr (.inr (.inr (.inr (fun i => some (wa i))))))), (q1, .inl (cI, 4, .inl (fun i => nI (gm i))))])) (g_runV (q0 := 0) (ci := 6) B hK rfl rfl (b_drawn l (D := D) (cI := cI) (cL := cL) (cZ := cZ) (cQ := cQ) gb gn gv gk gr hb dw (ks_dr ((ks_nk W sd k).2)) b 3 (by first | assumption | omega) (by first | assumption | omega) (by first | assumption | omega)) (gPw.pre (av := [.ref gb, .int (3 : Int32)]) (wc := [(gb, .inr (6, [.ref hb, .ref b, .int (nI dw), .ref gn, .ref gv, .int (nI (ks_dr ((ks_nk W sd k).2))), .ref gk, .ref gr]))]) hK hN [0] rfl (by decide)) gX6_make_X6_drawn rfl rfl kd_X6_drawn ⟨by decide, by decide⟩ (st := [.int (7 : Int32), .int (nI k), .ref q1]) rfl (Nat.le_of_ble_eq_true rfl) dX6_make_124 ⟨by (try dsimp only); omega, by (try dsimp only); omega⟩) hA (fun _ h => h) [0] [1, 2] (wr := [(gv, .inl (cQ, 4, .inr (.inr (.inr (.inr (fun i => some (wa i))))))), (q1, .inl (cI, 4, .inl (fun i => nI (gm i))))]) rfl rfl (by decide) (by decide) [2, 0, 1] (by decide) (fun _ => rfl) (fun u hu => ?_)
          refine g_iadd (v := nI (7 + (ks_dr ks_dr ((ks_nk W sd k).2) / 100 % 3))) B dX6_make_127 (nI_add 7 (ks_dr ks_dr ((ks_nk W sd k).2) / 100 % 3)) ?_
          refine g_iast B hK 2 0 rfl rfl k rfl (by omega) (by omega) (f2 := (fun i => nI ((updN gm k (7 + (ks_dr ks_dr ((ks_nk W sd k).2) / 100 % 3))) i))) (upd_nI _ _ _) (w2 := ([(gb, .inr (6, [.ref hb, .ref b, .int (nI dw), .ref gn, .ref gv, .int (nI (ks_dr (ks_dr ((ks_nk W sd k).2)))), .ref gk, .ref gr])), (gv, .inl (cQ, 4, .inr (.inr (.inr (.inr (fun i => some (wa i))))))), (q1, .inl (cI, 4, .inl (fun i => nI ((updN gm k (7 + (ks_dr ks_dr ((ks_nk W sd k).2) / 100 % 3))) i))))] ++ (tl_T cI 12 na (ks_nr P) 4 wa (ks_wr W) rc ra (ks_rr Q) n ka (ks_kn t S mu)))) rfl (fun _ h => h) dX6_make_128 ?_
          have hv : ks_nv W (ks_nk W sd k).2 k = (7 + (ks_dr ks_dr ((ks_nk W sd k).2) / 100 % 3), ks_dr (ks_dr ((ks_nk W sd k).2))) := by unfold ks_nv; rw [v4]; simp [c4, c6, c7]; try omega
          refine g_eqw (w2 := ([(gb, .inr (6, [.ref hb, .ref b, .int (nI dw), .ref gn, .ref gv, .int (nI ((ks_nk W sd (k + 1)).2)), .ref gk, .ref gr])), (gv, .inl (cQ, 4, .inr (.inr (.inr (.inr (fun i => some (wa i))))))), (q1, .inl (cI, 4, .inl (fun i => nI ((updN gm k (7 + (ks_dr ks_dr ((ks_nk W sd k).2) / 100 % 3))) i))))] ++ (tl_T cI 12 na (ks_nr P) 4 wa (ks_wr W) rc ra (ks_rr Q) n ka (ks_kn t S mu)))) (by rw [show (ks_nk W sd (k + 1)).2 = (ks_nv W (ks_nk W sd k).2 k).2 from rfl, hv]) ?_
          refine g_iinc (lv' := [(0, .ref gb), (1, .ref q1), (2, .int (nI (k + 1))), (3, .ref (wa k)), (4, .int (nI (ks_dr (ks_nk W sd k).2 / 100 % ((W.1 k) + (W.2.1 k)) + (W.2.2 k)))), (5, .int (0 : Int32)), (6, .int (1 : Int32))]) B dX6_make_129 2 rfl (nI_1 k) (by decide) [1, 2, 0, 3, 4, 5, 6] rfl ?_
          refine g_goto (tgt := 6) B dX6_make_132 (by decide) ?_
          refine g_widen (k := 1) (n := 4) (by (try dsimp only); omega) (by (try dsimp only); omega) ?_
          exact g_pick [0, 1, 2] rfl (ih6 (k + 1, (updN gm k (7 + (ks_dr ks_dr ((ks_nk W sd k).2) / 100 % 3)))) (⟨by omega, lt_s (p := fun j => updN gm k _ j = (ks_nv W (ks_nk W sd j).2 j).1) (fun a ha => by rw [updN_ne (by omega)]; exact i2 a ha) (by rw [updN_at, hv]), fun j hj => by rw [updN_ne (by omega)]; exact i3 j (by omega)⟩) (by (try dsimp only); omega))
      · refine g_iconst (v := (1 : Int32)) B dX6_make_60 (by decide) ?_
        refine g_goto (tgt := 65) B dX6_make_61 (by decide) ?_
        refine g_istore (lv' := [(0, .ref gb), (1, .ref q1), (2, .int (nI k)), (3, .ref (wa k)), (4, .int (nI (ks_dr (ks_nk W sd k).2 / 100 % ((W.1 k) + (W.2.1 k)) + (W.2.2 k)))), (5, .int (1 : Int32))]) B dX6_make_65 (by decide) [1, 2, 3, 4, 5, 0] rfl ?_
        refine g_iload B dX6_make_67 4 rfl ?_
        refine g_aload_n B dX6_make_69 3 rfl ?_
        refine g_iconst (v := (0 : Int32)) B dX6_make_70 (by decide) ?_
        refine g_iald B hK _ 0 (tl_g2 (i := k) (by omega)) rfl 0 rfl (by omega) (by omega) (v := nI (W.1 k)) (rfl) dX6_make_71 ?_
        refine g_aload_n B dX6_make_72 3 rfl ?_
        refine g_iconst (v := (1 : Int32)) B dX6_make_73 (by decide) ?_
        refine g_iald B hK _ 0 (tl_g2 (i := k) (by omega)) rfl 1 rfl (by omega) (by omega) (v := nI (W.2.1 k)) (rfl) dX6_make_74 ?_
        refine g_iadd (v := nI ((W.1 k) + (W.2.1 k))) B dX6_make_75 (nI_add (W.1 k) (W.2.1 k)) ?_
        refine g_ncmp_lt (tgt := 83) B (ks_dr (ks_nk W sd k).2 / 100 % ((W.1 k) + (W.2.1 k)) + (W.2.2 k)) ((W.1 k) + (W.2.1 k)) rfl rfl (by omega) (by omega) dX6_make_76 (by decide) (fun c18 => ?_) (fun c18 => ?_)
        · refine g_iconst (v := (0 : Int32)) B dX6_make_83 (by decide) ?_
          refine g_istore (lv' := [(0, .ref gb), (1, .ref q1), (2, .int (nI k)), (3, .ref (wa k)), (4, .int (nI (ks_dr (ks_nk W sd k).2 / 100 % ((W.1 k) + (W.2.1 k)) + (W.2.2 k)))), (5, .int (1 : Int32)), (6, .int (0 : Int32))]) B dX6_make_84 (by decide) [1, 2, 3, 4, 5, 6, 0] rfl ?_
          refine g_aload_n B dX6_make_86 1 rfl ?_
          refine g_iload_n B dX6_make_87 2 rfl ?_
          refine g_iload B dX6_make_88 5 rfl ?_
          refine g_if_eq (tgt := 97) B dX6_make_90 (by decide) (fun c19 => absurd c19 (by decide)) (fun _ => ?_)
          refine g_iconst (v := (0 : Int32)) B dX6_make_93 (by decide) ?_
          refine g_goto (tgt := 108) B dX6_make_94 (by decide) ?_
          refine g_aload_n B dX6_make_108 0 rfl ?_
          refine g_iload B dX6_make_109 5 rfl ?_
          refine g_if_ne (tgt := 119) B dX6_make_111 (by decide) (fun _ => ?_) (fun c20 => absurd c20 (by decide))
          refine g_iconst (v := (3 : Int32)) B dX6_make_119 (by decide) ?_
          refine g_goto (tgt := 124) B dX6_make_120 (by decide) ?_
          refine g_callU (w2 := (fun (_ : Unit) => [(gb, .inr (6, [.ref hb, .ref b, .int (nI dw), .ref gn, .ref gv, .int (nI (ks_dr (ks_dr ((ks_nk W sd k).2)))), .ref gk, .ref gr])), (gv, .inl (cQ, 4, .inr (.inr (.inr (.inr (fun i => some (wa i))))))), (q1, .inl (cI, 4, .inl (fun i => nI (gm i))))])) (g_runV (q0 := 0) (ci := 6) B hK rfl rfl (b_drawn l (D := D) (cI := cI) (cL := cL) (cZ := cZ) (cQ := cQ) gb gn gv gk gr hb dw (ks_dr ((ks_nk W sd k).2)) b 3 (by first | assumption | omega) (by first | assumption | omega) (by first | assumption | omega)) (gPw.pre (av := [.ref gb, .int (3 : Int32)]) (wc := [(gb, .inr (6, [.ref hb, .ref b, .int (nI dw), .ref gn, .ref gv, .int (nI (ks_dr ((ks_nk W sd k).2))), .ref gk, .ref gr]))]) hK hN [0] rfl (by decide)) gX6_make_X6_drawn rfl rfl kd_X6_drawn ⟨by decide, by decide⟩ (st := [.int (0 : Int32), .int (nI k), .ref q1]) rfl (Nat.le_of_ble_eq_true rfl) dX6_make_124 ⟨by (try dsimp only); omega, by (try dsimp only); omega⟩) hA (fun _ h => h) [0] [1, 2] (wr := [(gv, .inl (cQ, 4, .inr (.inr (.inr (.inr (fun i => some (wa i))))))), (q1, .inl (cI, 4, .inl (fun i => nI (gm i))))]) rfl rfl (by decide) (by decide) [2, 0, 1] (by decide) (fun _ => rfl) (fun u hu => ?_)
          refine g_iadd (v := nI (ks_dr ks_dr ((ks_nk W sd k).2) / 100 % 3)) B dX6_make_127 (nI_add 0 (ks_dr ks_dr ((ks_nk W sd k).2) / 100 % 3)) ?_
          refine g_iast B hK 2 0 rfl rfl k rfl (by omega) (by omega) (f2 := (fun i => nI ((updN gm k (ks_dr ks_dr ((ks_nk W sd k).2) / 100 % 3)) i))) (upd_nI _ _ _) (w2 := ([(gb, .inr (6, [.ref hb, .ref b, .int (nI dw), .ref gn, .ref gv, .int (nI (ks_dr (ks_dr ((ks_nk W sd k).2)))), .ref gk, .ref gr])), (gv, .inl (cQ, 4, .inr (.inr (.inr (.inr (fun i => some (wa i))))))), (q1, .inl (cI, 4, .inl (fun i => nI ((updN gm k (ks_dr ks_dr ((ks_nk W sd k).2) / 100 % 3)) i))))] ++ (tl_T cI 12 na (ks_nr P) 4 wa (ks_wr W) rc ra (ks_rr Q) n ka (ks_kn t S mu)))) rfl (fun _ h => h) dX6_make_128 ?_
          have hv : ks_nv W (ks_nk W sd k).2 k = (ks_dr ks_dr ((ks_nk W sd k).2) / 100 % 3, ks_dr (ks_dr ((ks_nk W sd k).2))) := by unfold ks_nv; rw [v4]; simp [c4, c6, c18]; try omega
          refine g_eqw (w2 := ([(gb, .inr (6, [.ref hb, .ref b, .int (nI dw), .ref gn, .ref gv, .int (nI ((ks_nk W sd (k + 1)).2)), .ref gk, .ref gr])), (gv, .inl (cQ, 4, .inr (.inr (.inr (.inr (fun i => some (wa i))))))), (q1, .inl (cI, 4, .inl (fun i => nI ((updN gm k (ks_dr ks_dr ((ks_nk W sd k).2) / 100 % 3)) i))))] ++ (tl_T cI 12 na (ks_nr P) 4 wa (ks_wr W) rc ra (ks_rr Q) n ka (ks_kn t S mu)))) (by rw [show (ks_nk W sd (k + 1)).2 = (ks_nv W (ks_nk W sd k).2 k).2 from rfl, hv]) ?_
          refine g_iinc (lv' := [(0, .ref gb), (1, .ref q1), (2, .int (nI (k + 1))), (3, .ref (wa k)), (4, .int (nI (ks_dr (ks_nk W sd k).2 / 100 % ((W.1 k) + (W.2.1 k)) + (W.2.2 k)))), (5, .int (1 : Int32)), (6, .int (0 : Int32))]) B dX6_make_129 2 rfl (nI_1 k) (by decide) [1, 2, 0, 3, 4, 5, 6] rfl ?_
          refine g_goto (tgt := 6) B dX6_make_132 (by decide) ?_
          refine g_widen (k := 1) (n := 4) (by (try dsimp only); omega) (by (try dsimp only); omega) ?_
          exact g_pick [0, 1, 2] rfl (ih6 (k + 1, (updN gm k (ks_dr ks_dr ((ks_nk W sd k).2) / 100 % 3))) (⟨by omega, lt_s (p := fun j => updN gm k _ j = (ks_nv W (ks_nk W sd j).2 j).1) (fun a ha => by rw [updN_ne (by omega)]; exact i2 a ha) (by rw [updN_at, hv]), fun j hj => by rw [updN_ne (by omega)]; exact i3 j (by omega)⟩) (by (try dsimp only); omega))
        · refine g_iconst (v := (1 : Int32)) B dX6_make_79 (by decide) ?_
          refine g_goto (tgt := 84) B dX6_make_80 (by decide) ?_
          refine g_istore (lv' := [(0, .ref gb), (1, .ref q1), (2, .int (nI k)), (3, .ref (wa k)), (4, .int (nI (ks_dr (ks_nk W sd k).2 / 100 % ((W.1 k) + (W.2.1 k)) + (W.2.2 k)))), (5, .int (1 : Int32)), (6, .int (1 : Int32))]) B dX6_make_84 (by decide) [1, 2, 3, 4, 5, 6, 0] rfl ?_
          refine g_aload_n B dX6_make_86 1 rfl ?_
          refine g_iload_n B dX6_make_87 2 rfl ?_
          refine g_iload B dX6_make_88 5 rfl ?_
          refine g_if_eq (tgt := 97) B dX6_make_90 (by decide) (fun c22 => absurd c22 (by decide)) (fun _ => ?_)
          refine g_iconst (v := (0 : Int32)) B dX6_make_93 (by decide) ?_
          refine g_goto (tgt := 108) B dX6_make_94 (by decide) ?_
          refine g_aload_n B dX6_make_108 0 rfl ?_
          refine g_iload B dX6_make_109 5 rfl ?_
          refine g_if_ne (tgt := 119) B dX6_make_111 (by decide) (fun _ => ?_) (fun c23 => absurd c23 (by decide))
          refine g_iconst (v := (3 : Int32)) B dX6_make_119 (by decide) ?_
          refine g_goto (tgt := 124) B dX6_make_120 (by decide) ?_
          refine g_callU (w2 := (fun (_ : Unit) => [(gb, .inr (6, [.ref hb, .ref b, .int (nI dw), .ref gn, .ref gv, .int (nI (ks_dr (ks_dr ((ks_nk W sd k).2)))), .ref gk, .ref gr])), (gv, .inl (cQ, 4, .inr (.inr (.inr (.inr (fun i => some (wa i))))))), (q1, .inl (cI, 4, .inl (fun i => nI (gm i))))])) (g_runV (q0 := 0) (ci := 6) B hK rfl rfl (b_drawn l (D := D) (cI := cI) (cL := cL) (cZ := cZ) (cQ := cQ) gb gn gv gk gr hb dw (ks_dr ((ks_nk W sd k).2)) b 3 (by first | assumption | omega) (by first | assumption | omega) (by first | assumption | omega)) (gPw.pre (av := [.ref gb, .int (3 : Int32)]) (wc := [(gb, .inr (6, [.ref hb, .ref b, .int (nI dw), .ref gn, .ref gv, .int (nI (ks_dr ((ks_nk W sd k).2))), .ref gk, .ref gr]))]) hK hN [0] rfl (by decide)) gX6_make_X6_drawn rfl rfl kd_X6_drawn ⟨by decide, by decide⟩ (st := [.int (0 : Int32), .int (nI k), .ref q1]) rfl (Nat.le_of_ble_eq_true rfl) dX6_make_124 ⟨by (try dsimp only); omega, by (try dsimp only); omega⟩) hA (fun _ h => h) [0] [1, 2] (wr := [(gv, .inl (cQ, 4, .inr (.inr (.inr (.inr (fun i => some (wa i))))))), (q1, .inl (cI, 4, .inl (fun i => nI (gm i))))]) rfl rfl (by decide) (by decide) [2, 0, 1] (by decide) (fun _ => rfl) (fun u hu => ?_)
          refine g_iadd (v := nI (ks_dr ks_dr ((ks_nk W sd k).2) / 100 % 3)) B dX6_make_127 (nI_add 0 (ks_dr ks_dr ((ks_nk W sd k).2) / 100 % 3)) ?_
          refine g_iast B hK 2 0 rfl rfl k rfl (by omega) (by omega) (f2 := (fun i => nI ((updN gm k (ks_dr ks_dr ((ks_nk W sd k).2) / 100 % 3)) i))) (upd_nI _ _ _) (w2 := ([(gb, .inr (6, [.ref hb, .ref b, .int (nI dw), .ref gn, .ref gv, .int (nI (ks_dr (ks_dr ((ks_nk W sd k).2)))), .ref gk, .ref gr])), (gv, .inl (cQ, 4, .inr (.inr (.inr (.inr (fun i => some (wa i))))))), (q1, .inl (cI, 4, .inl (fun i => nI ((updN gm k (ks_dr ks_dr ((ks_nk W sd k).2) / 100 % 3)) i))))] ++ (tl_T cI 12 na (ks_nr P) 4 wa (ks_wr W) rc ra (ks_rr Q) n ka (ks_kn t S mu)))) rfl (fun _ h => h) dX6_make_128 ?_
          have hv : ks_nv W (ks_nk W sd k).2 k = (ks_dr ks_dr ((ks_nk W sd k).2) / 100 % 3, ks_dr (ks_dr ((ks_nk W sd k).2))) := by unfold ks_nv; rw [v4]; simp [c4, c6, c18]; try omega
          refine g_eqw (w2 := ([(gb, .inr (6, [.ref hb, .ref b, .int (nI dw), .ref gn, .ref gv, .int (nI ((ks_nk W sd (k + 1)).2)), .ref gk, .ref gr])), (gv, .inl (cQ, 4, .inr (.inr (.inr (.inr (fun i => some (wa i))))))), (q1, .inl (cI, 4, .inl (fun i => nI ((updN gm k (ks_dr ks_dr ((ks_nk W sd k).2) / 100 % 3)) i))))] ++ (tl_T cI 12 na (ks_nr P) 4 wa (ks_wr W) rc ra (ks_rr Q) n ka (ks_kn t S mu)))) (by rw [show (ks_nk W sd (k + 1)).2 = (ks_nv W (ks_nk W sd k).2 k).2 from rfl, hv]) ?_
          refine g_iinc (lv' := [(0, .ref gb), (1, .ref q1), (2, .int (nI (k + 1))), (3, .ref (wa k)), (4, .int (nI (ks_dr (ks_nk W sd k).2 / 100 % ((W.1 k) + (W.2.1 k)) + (W.2.2 k)))), (5, .int (1 : Int32)), (6, .int (1 : Int32))]) B dX6_make_129 2 rfl (nI_1 k) (by decide) [1, 2, 0, 3, 4, 5, 6] rfl ?_
          refine g_goto (tgt := 6) B dX6_make_132 (by decide) ?_
          refine g_widen (k := 1) (n := 4) (by (try dsimp only); omega) (by (try dsimp only); omega) ?_
          exact g_pick [0, 1, 2] rfl (ih6 (k + 1, (updN gm k (ks_dr ks_dr ((ks_nk W sd k).2) / 100 % 3))) (⟨by omega, lt_s (p := fun j => updN gm k _ j = (ks_nv W (ks_nk W sd j).2 j).1) (fun a ha => by rw [updN_ne (by omega)]; exact i2 a ha) (by rw [updN_at, hv]), fun j hj => by rw [updN_ne (by omega)]; exact i3 j (by omega)⟩) (by (try dsimp only); omega))
    · refine g_goto (tgt := 129) B dX6_make_32 (by decide) ?_
      have hv : ks_nv W (ks_nk W sd k).2 k = (0, (ks_nk W sd k).2) := by unfold ks_nv; rw [v4]; simp [c4]; try omega
      refine g_eqw (w2 := ([(gb, .inr (6, [.ref hb, .ref b, .int (nI dw), .ref gn, .ref gv, .int (nI ((ks_nk W sd (k + 1)).2)), .ref gk, .ref gr])), (gv, .inl (cQ, 4, .inr (.inr (.inr (.inr (fun i => some (wa i))))))), (q1, .inl (cI, 4, .inl (fun i => nI (gm i))))] ++ (tl_T cI 12 na (ks_nr P) 4 wa (ks_wr W) rc ra (ks_rr Q) n ka (ks_kn t S mu)))) (by rw [show (ks_nk W sd (k + 1)).2 = (ks_nv W (ks_nk W sd k).2 k).2 from rfl, hv]) ?_
      refine g_iinc (lv' := [(0, .ref gb), (1, .ref q1), (2, .int (nI (k + 1))), (3, .ref (wa k))]) B dX6_make_129 2 rfl (nI_1 k) (by decide) [1, 2, 0, 3] rfl ?_
      refine g_goto (tgt := 6) B dX6_make_132 (by decide) ?_
      refine g_widen (k := 1) (n := 4) (by (try dsimp only); omega) (by (try dsimp only); omega) ?_
      exact g_pick [0, 1, 2] rfl (ih6 (k + 1, gm) (⟨by omega, lt_s i2 (by rw [i3 k (Nat.le_refl k), hv]), fun j hj => i3 j (by omega)⟩) (by (try dsimp only); omega))

