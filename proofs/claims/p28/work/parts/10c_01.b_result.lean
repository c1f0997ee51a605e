set_option maxHeartbeats 400000 in
set_option maxRecDepth 100000 in
theorem b_result (l : Launch) {D : va_G} {cI cL cZ cQ : ClassId} (gb : Nat) (gn : Nat) (gv : Nat) (gk : Nat) (gr : Nat) (hb : Nat) (b : Nat) (dw : Nat) (sd : Nat) (na : Nat → Nat) (wa : Nat → Nat) (ra : Nat → Nat) (ka : Nat → Nat) (P : Pg) (W : Wg) (Q : Rg) (rc : Nat) (t : Nat → Nat) (n : Nat) (S : Int64) (mu : Nat → Nat) (ca : Nat) (hW : ks_WP P) (hca : ca < 10000) : WM l yX6_result wsX6_result ({ frames := 3, cells := 3, slots := 66, locals := 111 } : Room) D (gTys cI cL cZ cQ) [.ref gb, .int (nI ca)] ([(gb, .inr (6, [.ref hb, .ref b, .int (nI dw), .ref gn, .ref gv, .int (nI sd), .ref gk, .ref gr])), (gn, .inl (cQ, 12, .inr (.inr (.inr (.inr (fun i => some (na i)))))))] ++ (tl_T cI 12 na (ks_nr P) 4 wa (ks_wr W) rc ra (ks_rr Q) n ka (ks_kn t S mu))) (fun (_ : Unit) => True) (fun (_ : Unit) => some (.int (nI (ks_rs P ca)))) (fun (_ : Unit) => ([(gb, .inr (6, [.ref hb, .ref b, .int (nI dw), .ref gn, .ref gv, .int (nI sd), .ref gk, .ref gr])), (gn, .inl (cQ, 12, .inr (.inr (.inr (.inr (fun i => some (na i)))))))] ++ (tl_T cI 12 na (ks_nr P) 4 wa (ks_wr W) rc ra (ks_rr Q) n ka (ks_kn t S mu)))) := by
  refine WM.ofG cX6_result 3 (some .int) (by decide +kernel) rfl (Nat.le_of_ble_eq_true rfl) ?_
  intro p e s m below meth c A hA B hr hlocks hname hK hN
  have v1 := ks_st_le P ca
  refine g_aload_n B dX6_result_0 0 rfl ?_
  refine g_iload_n B dX6_result_1 1 rfl ?_
  refine g_callT (w2 := (fun (z9 : Nat × (Nat → Int32)) => [(gb, .inr (6, [.ref hb, .ref b, .int (nI dw), .ref gn, .ref gv, .int (nI sd), .ref gk, .ref gr])), (gn, .inl (cQ, 12, .inr (.inr (.inr (.inr (fun i => some (na i))))))), (z9.1, .inl (cI, (ks_st P ca + 1), .inl z9.2))])) (Tx := (fun (z9 : Nat × (Nat → Int32)) => (tl_T cI 12 na (ks_nr P) 4 wa (ks_wr W) rc ra (ks_rr Q) n ka (ks_kn t S mu)))) (rx := (fun (z9 : Nat × (Nat → Int32)) => [(gb, .inr (6, [.ref hb, .ref b, .int (nI dw), .ref gn, .ref gv, .int (nI sd), .ref gk, .ref gr])), (gn, .inl (cQ, 12, .inr (.inr (.inr (.inr (fun i => some (na i))))))), (z9.1, .inl (cI, (ks_st P ca + 1), .inl z9.2))])) (g_runV (q0 := 0) (ci := 6) B hK rfl rfl (b_run l (D := D) (cI := cI) (cL := cL) (cZ := cZ) (cQ := cQ) gb gn gv gk gr hb b dw sd na wa ra ka P W Q rc t n S mu ca (by first | with_reducible assumption | omega | assumption) (by first | with_reducible assumption | omega | assumption)) (gPw.preT (av := [.ref gb, .int (nI ca)]) (cx := [(gb, .inr (6, [.ref hb, .ref b, .int (nI dw), .ref gn, .ref gv, .int (nI sd), .ref gk, .ref gr])), (gn, .inl (cQ, 12, .inr (.inr (.inr (.inr (fun i => some (na i)))))))]) hK hN [0, 1] rfl (by decide)) gX6_result_X6_run rfl rfl kd_X6_run ⟨by decide, by decide⟩ (st := []) rfl (Nat.le_of_ble_eq_true rfl) dX6_result_2 ⟨by decide, by decide⟩) hA (fun _ h => h) [0, 1] [] (wr := []) rfl rfl (by decide) (by decide) [0, 1, 2] (by decide) (fun _ => rfl) (fun u hu => ?_)
  obtain ⟨r_1, h_1⟩ := u
  try dsimp only at hu ⊢
  have hu1 := hu
  refine g_astore_n (lv' := [(0, .ref gb), (1, .int (nI ca)), (2, .ref r_1)]) B dX6_result_5 rfl (by decide) [1, 2, 0] rfl ?_
  refine g_aload_n B dX6_result_6 2 rfl ?_
  refine g_aload_n B dX6_result_7 2 rfl ?_
  refine g_alen (v := nI (ks_st P ca + 1)) B hK 2 0 rfl rfl rfl dX6_result_8 ?_
  refine g_iconst (v := (1 : Int32)) B dX6_result_9 (by decide) ?_
  refine g_isub (v := nI ((ks_st P ca + 1) - 1)) B dX6_result_10 (pk_sub (a := ks_st P ca + 1) (b := 1) (by omega)) ?_
  refine g_eqi (y := nI (ks_st P ca)) (congrArg nI (by omega)) ?_
  refine g_iald B hK 2 0 rfl rfl (ks_st P ca) rfl (by omega) (by omega) (v := (h_1 (ks_st P ca))) rfl dX6_result_11 ?_
  refine g_eqi (y := nI (ks_rs P ca)) hu1.2 ?_
  refine g_widen (k := 3) (n := 66) (by (try dsimp only); omega) (by (try dsimp only); omega) ?_
  refine g_subT (X2 := [(gb, .inr (6, [.ref hb, .ref b, .int (nI dw), .ref gn, .ref gv, .int (nI sd), .ref gk, .ref gr])), (gn, .inl (cQ, 12, .inr (.inr (.inr (.inr (fun i => some (na i)))))))]) [0, 1] (by decide) rfl ?_
  exact g_iret_x B hr rfl hlocks () (rfl) (trivial) rfl dX6_result_12

