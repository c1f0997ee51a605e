set_option maxHeartbeats 400000 in
set_option maxRecDepth 100000 in
theorem b_covered (l : Launch) {D : va_G} {cI cL cZ cQ : ClassId} (gb : Nat) (gn : Nat) (gv : Nat) (gk : Nat) (gr : Nat) (hb : Nat) (b : Nat) (dw : Nat) (sd : Nat) (na : Nat → Nat) (wa : Nat → Nat) (ra : Nat → Nat) (ka : Nat → Nat) (P : Pg) (W : Wg) (Q : Rg) (rc : Nat) (t : Nat → Nat) (n : Nat) (S : Int64) (mu : Nat → Nat) (ca : Nat) (hW : ks_WP P) (hca : ca < 10000) : WM l yX6_covered wsX6_covered ({ frames := 3, cells := 4, slots := 90, locals := 111 } : Room) D (gTys cI cL cZ cQ) [.ref gb, .int (nI ca)] ([(gb, .inr (6, [.ref hb, .ref b, .int (nI dw), .ref gn, .ref gv, .int (nI sd), .ref gk, .ref gr])), (gn, .inl (cQ, 12, .inr (.inr (.inr (.inr (fun i => some (na i)))))))] ++ (tl_T cI 12 na (ks_nr P) 4 wa (ks_wr W) rc ra (ks_rr Q) n ka (ks_kn t S mu))) (fun (q : Nat × (Nat → Bool)) => ∀ b, b < 24 → q.2 b = hasB (ks_fd P ca) b) (fun (q : Nat × (Nat → Bool)) => some (.ref q.1)) (fun (q : Nat × (Nat → Bool)) => ([(gb, .inr (6, [.ref hb, .ref b, .int (nI dw), .ref gn, .ref gv, .int (nI sd), .ref gk, .ref gr])), (gn, .inl (cQ, 12, .inr (.inr (.inr (.inr (fun i => some (na i))))))), (q.1, .inl (cZ, 24, .inl (fun i => bI (q.2 i))))] ++ (tl_T cI 12 na (ks_nr P) 4 wa (ks_wr W) rc ra (ks_rr Q) n ka (ks_kn t S mu)))) := by
  refine WM.ofG cX6_covered 5 (some (.array .boolean)) (by decide +kernel) rfl (Nat.le_of_ble_eq_true rfl) ?_
  intro p e s m below meth c A hA B hr hlocks hname hK hN
  have v1 := ks_st_le P ca
  refine g_bipush (v := (24 : Int32)) B dX6_covered_0 (by decide) ?_
  refine g_newa B hK hA 2 rfl rfl (List.mem_of_getElem? (i := 1) rfl) rfl (24, .inl (fun _ => (0 : Int32))) (cellZ_new 24) (by decide) (by decide) (by decide) (by decide) (by decide) dX6_covered_2 (fun q1 => ?_)
  refine g_perm (tl_sw _ _ _) ?_
  refine g_eqw (w2 := ([(gb, .inr (6, [.ref hb, .ref b, .int (nI dw), .ref gn, .ref gv, .int (nI sd), .ref gk, .ref gr])), (gn, .inl (cQ, 12, .inr (.inr (.inr (.inr (fun i => some (na i))))))), (q1, .inl (cZ, 24, .inl (fun _ => (0 : Int32))))] ++ (tl_T cI 12 na (ks_nr P) 4 wa (ks_wr W) rc ra (ks_rr Q) n ka (ks_kn t S mu)))) rfl ?_
  refine g_astore_n (lv' := [(0, .ref gb), (1, .int (nI ca)), (2, .ref q1)]) B dX6_covered_4 rfl (by decide) [1, 2, 0] rfl ?_
  refine g_eqw (w2 := ([(gb, .inr (6, [.ref hb, .ref b, .int (nI dw), .ref gn, .ref gv, .int (nI sd), .ref gk, .ref gr])), (gn, .inl (cQ, 12, .inr (.inr (.inr (.inr (fun i => some (na i))))))), (q1, .inl (cZ, 24, .inl (fun i => bI ((fun _ => false) i))))] ++ (tl_T cI 12 na (ks_nr P) 4 wa (ks_wr W) rc ra (ks_rr Q) n ka (ks_kn t S mu)))) rfl ?_
  refine g_aload_n B dX6_covered_5 0 rfl ?_
  refine g_iload_n B dX6_covered_6 1 rfl ?_
  refine g_callT (w2 := (fun (z9 : Nat × (Nat → Int32)) => [(gb, .inr (6, [.ref hb, .ref b, .int (nI dw), .ref gn, .ref gv, .int (nI sd), .ref gk, .ref gr])), (gn, .inl (cQ, 12, .inr (.inr (.inr (.inr (fun i => some (na i))))))), (q1, .inl (cZ, 24, .inl (fun i => bI ((fun _ => false) i)))), (z9.1, .inl (cI, (ks_st P ca + 1), .inl z9.2))])) (Tx := (fun (z9 : Nat × (Nat → Int32)) => (tl_T cI 12 na (ks_nr P) 4 wa (ks_wr W) rc ra (ks_rr Q) n ka (ks_kn t S mu)))) (rx := (fun (z9 : Nat × (Nat → Int32)) => [(gb, .inr (6, [.ref hb, .ref b, .int (nI dw), .ref gn, .ref gv, .int (nI sd), .ref gk, .ref gr])), (gn, .inl (cQ, 12, .inr (.inr (.inr (.inr (fun i => some (na i))))))), (z9.1, .inl (cI, (ks_st P ca + 1), .inl z9.2))])) (g_runV (q0 := 0) (ci := 6) B hK rfl rfl (b_run l (D := D) (cI := cI) (cL := cL) (cZ := cZ) (cQ := cQ) gb gn gv gk gr hb b dw sd na wa ra ka P W Q rc t n S mu ca (by first | with_reducible assumption | omega | assumption) (by first | with_reducible assumption | omega | assumption)) (gPw.preT (av := [.ref gb, .int (nI ca)]) (cx := [(gb, .inr (6, [.ref hb, .ref b, .int (nI dw), .ref gn, .ref gv, .int (nI sd), .ref gk, .ref gr])), (gn, .inl (cQ, 12, .inr (.inr (.inr (.inr (fun i => some (na i)))))))]) hK hN [0, 1] rfl (by decide)) gX6_covered_X6_run rfl rfl kd_X6_run ⟨by decide, by decide⟩ (st := []) rfl (Nat.le_of_ble_eq_true rfl) dX6_covered_7 ⟨by decide, by decide⟩) hA (fun _ h => h) [0, 1] [2] (wr := [(q1, .inl (cZ, 24, .inl (fun i => bI ((fun _ => false) i))))]) rfl rfl (by decide) (by decide) [1, 2, 0, 3] (by decide) (fun _ => rfl) (fun u hu => ?_)
  obtain ⟨r_2, h_2⟩ := u
  try dsimp only at hu ⊢
  have hu2 := hu
  refine g_astore_n (lv' := [(0, .ref gb), (1, .int (nI ca)), (2, .ref q1), (3, .ref r_2)]) B dX6_covered_10 rfl (by decide) [1, 2, 3, 0] rfl ?_
  refine g_iconst (v := (0 : Int32)) B dX6_covered_11 (by decide) ?_
  refine g_istore (lv' := [(0, .ref gb), (1, .int (nI ca)), (2, .ref q1), (3, .ref r_2), (4, .int (0 : Int32))]) B dX6_covered_12 (by decide) [1, 2, 3, 4, 0] rfl ?_
  refine g_widen (k := 4) (n := 90) (by (try dsimp only); omega) (by (try dsimp only); omega) ?_
  refine g_loop (σ := Nat × (Nat → Bool)) (fun x9 => x9.1 ≤ ks_st P ca ∧ ∀ b, x9.2 b = true ↔ ∃ j, j < x9.1 ∧ ks_ek P ca j = b) (fun x9 => 31 - x9.1) (fun x9 => 4) (fun x9 => 90) (fun x9 => ([(gb, .inr (6, [.ref hb, .ref b, .int (nI dw), .ref gn, .ref gv, .int (nI sd), .ref gk, .ref gr])), (gn, .inl (cQ, 12, .inr (.inr (.inr (.inr (fun i => some (na i))))))), (q1, .inl (cZ, 24, .inl (fun i => bI (x9.2 i)))), (r_2, .inl (cI, (ks_st P ca + 1), .inl h_2))] ++ (tl_T cI 12 na (ks_nr P) 4 wa (ks_wr W) rc ra (ks_rr Q) n ka (ks_kn t S mu)))) (fun x9 => [(0, .ref gb), (1, .int (nI ca)), (2, .ref q1), (3, .ref r_2), (4, .int (nI x9.1))]) (fun x9 hI ih14 => ?_) (0, (fun _ => false)) (by (try dsimp only); exact ⟨by omega, fun b => ⟨fun h => (by cases h), fun ⟨j, h, _⟩ => absurd h (Nat.not_lt_zero j)⟩⟩) rfl rfl (by (try dsimp only) <;> rfl) (by (try dsimp only) <;> rfl)
  obtain ⟨k, cv⟩ := x9
  try dsimp only at hI ih14 ⊢
  obtain ⟨i1, i2⟩ := hI
  refine g_iload B dX6_covered_14 4 rfl ?_
  refine g_aload_n B dX6_covered_16 3 rfl ?_
  refine g_alen (v := nI (ks_st P ca + 1)) B hK 3 0 rfl rfl rfl dX6_covered_17 ?_
  refine g_iconst (v := (1 : Int32)) B dX6_covered_18 (by decide) ?_
  refine g_isub (v := nI ((ks_st P ca + 1) - 1)) B dX6_covered_19 (pk_sub (a := ks_st P ca + 1) (b := 1) (by omega)) ?_
  refine g_eqi (y := nI (ks_st P ca)) (congrArg nI (by omega)) ?_
  refine g_ncmp_ge (tgt := 36) B k (ks_st P ca) rfl rfl (by omega) (by omega) dX6_covered_20 (by decide) (fun c4 => ?_) (fun c4 => ?_)
  · refine g_aload_n B dX6_covered_36 2 rfl ?_
    refine g_widen (k := 4) (n := 90) (by (try dsimp only); omega) (by (try dsimp only); omega) ?_
    refine g_subT (X2 := [(gb, .inr (6, [.ref hb, .ref b, .int (nI dw), .ref gn, .ref gv, .int (nI sd), .ref gk, .ref gr])), (gn, .inl (cQ, 12, .inr (.inr (.inr (.inr (fun i => some (na i))))))), (q1, .inl (cZ, 24, .inl (fun i => bI (cv i))))]) [0, 1, 2] (by decide) rfl ?_
    exact g_aret_x B hr (Or.inr ⟨_, rfl⟩) hlocks (q1, cv) (rfl) (by (try dsimp only); exact cov_end (by rw [show ks_st P ca = k by omega]; exact i2)) (by (try dsimp only) <;> rfl) dX6_covered_37
  · refine g_aload_n B dX6_covered_23 2 rfl ?_
    refine g_aload_n B dX6_covered_24 3 rfl ?_
    refine g_iload B dX6_covered_25 4 rfl ?_
    refine g_iald B hK 3 0 rfl rfl k rfl (by omega) (by omega) (v := (h_2 k)) rfl dX6_covered_27 ?_
    refine g_eqi (y := nI (ks_ek P ca k)) (hu2.1 k (by omega)) ?_
    have hek := (ks_ek_lt (P := P) (t := ca) (j := k) (by omega)).1
    refine g_iconst (v := (1 : Int32)) B dX6_covered_28 (by decide) ?_
    refine g_zast B hK 2 2 rfl rfl (ks_ek P ca k) rfl (by omega) (by omega) (f2 := (fun i => bI ((updB cv (ks_ek P ca k) true) i))) (upd_bI _ _ true) (w2 := ([(gb, .inr (6, [.ref hb, .ref b, .int (nI dw), .ref gn, .ref gv, .int (nI sd), .ref gk, .ref gr])), (gn, .inl (cQ, 12, .inr (.inr (.inr (.inr (fun i => some (na i))))))), (q1, .inl (cZ, 24, .inl (fun i => bI ((updB cv (ks_ek P ca k) true) i)))), (r_2, .inl (cI, (ks_st P ca + 1), .inl h_2))] ++ (tl_T cI 12 na (ks_nr P) 4 wa (ks_wr W) rc ra (ks_rr Q) n ka (ks_kn t S mu)))) rfl (fun _ h => h) dX6_covered_29 ?_
    refine g_iinc (lv' := [(0, .ref gb), (1, .int (nI ca)), (2, .ref q1), (3, .ref r_2), (4, .int (nI (k + 1)))]) B dX6_covered_30 4 rfl (nI_1 k) (by decide) [1, 2, 3, 4, 0] rfl ?_
    refine g_goto (tgt := 14) B dX6_covered_33 (by decide) ?_
    refine g_widen (k := 4) (n := 90) (by (try dsimp only); omega) (by (try dsimp only); omega) ?_
    have ihx5 := ih14 (k + 1, (updB cv (ks_ek P ca k) true))
    try dsimp only at ihx5
    exact ihx5 (⟨by omega, cov_step i2⟩) (by (try dsimp only); omega)

