set_option maxHeartbeats 400000 in
set_option maxRecDepth 100000 in
theorem k_shrunk (l : Launch) {D : va_G} {cI cL cZ cQ : ClassId} (hb : Nat) (hp : Nat) (ht : Nat) (hg : Nat) (ha : Nat) (hq : Nat) (p0 : Nat) (p1 : Nat) (p2 : Nat) (p3 : Nat) (p4 : Nat) (P : Pg) (t0 : Nat) (fp : Nat → Int32) (ts : Int32) (tr : Int32) (tf : Int64) (ca : Nat) (rr : Nat) (hW : ks_WP P) (hca : ca < 10000) (hrr : rr = ks_rs P ca) : WM l yX5_shrunk wsX5_shrunk ({ frames := 5, cells := 0, slots := 0, locals := 116 } : Room) D (gTys cI cL cZ cQ) [.ref hb, .int (nI ca), .int (nI rr)] [(hb, .inr (5, [.ref hp, .ref ht, .ref hg, .ref ha, .ref hq])), (hp, .inr (2, [.ref p0, .ref p1, .ref p2, .ref p3, .ref p4])), (p0, .inl (cI, 12, .inl (fun i => nI (P.1 i)))), (p1, .inl (cI, 12, .inl (fun i => nI (P.2.1 i)))), (p2, .inl (cI, 12, .inl (fun i => nI (P.2.2.1 i)))), (p3, .inl (cI, 24, .inl (fun i => ks_tI (P.2.2.2.1 i)))), (p4, .inl (cZ, 12, .inl (fun i => bI (P.2.2.2.2 i)))), (ht, .inr (4, [.ref t0, .int ts, .int tr, .long tf])), (t0, .inl (cI, 30, .inl fp))] (fun (q : (Nat → Int32) × Int32 × Int32 × Int64 × Nat) => ks_rs P q.2.2.2.2 = ks_rs P ca ∧ q.2.2.2.2 ≤ ca ∧ ∀ s, s < 4 → ∀ w, w < ks_dg q.2.2.2.2 s → ¬ ks_rs P (ks_wv q.2.2.2.2 s w) = ks_rs P ca) (fun (q : (Nat → Int32) × Int32 × Int32 × Int64 × Nat) => some (.int (nI q.2.2.2.2))) (fun (q : (Nat → Int32) × Int32 × Int32 × Int64 × Nat) => [(hb, .inr (5, [.ref hp, .ref ht, .ref hg, .ref ha, .ref hq])), (hp, .inr (2, [.ref p0, .ref p1, .ref p2, .ref p3, .ref p4])), (p0, .inl (cI, 12, .inl (fun i => nI (P.1 i)))), (p1, .inl (cI, 12, .inl (fun i => nI (P.2.1 i)))), (p2, .inl (cI, 12, .inl (fun i => nI (P.2.2.1 i)))), (p3, .inl (cI, 24, .inl (fun i => ks_tI (P.2.2.2.1 i)))), (p4, .inl (cZ, 12, .inl (fun i => bI (P.2.2.2.2 i)))), (ht, .inr (4, [.ref t0, .int q.2.1, .int q.2.2.1, .long q.2.2.2.1])), (t0, .inl (cI, 30, .inl q.1))]) := by
  refine WM.ofG cX5_shrunk 7 (some .int) (by decide +kernel) rfl (Nat.le_of_ble_eq_true rfl) ?_
  intro p e s m below meth c A hA B hr hlocks hname hK hN
  have w9 := ks_rs_lt (t := ca) hW
  refine g_iload_n B dX5_shrunk_0 1 rfl ?_
  refine g_istore_n (lv' := [(0, .ref hb), (1, .int (nI ca)), (2, .int (nI rr)), (3, .int (nI ca))]) B dX5_shrunk_1 rfl (by decide) [1, 2, 3, 0] rfl ?_
  refine g_iconst (v := (0 : Int32)) B dX5_shrunk_2 (by decide) ?_
  refine g_istore (lv' := [(0, .ref hb), (1, .int (nI ca)), (2, .int (nI rr)), (3, .int (nI ca)), (4, .int (0 : Int32))]) B dX5_shrunk_3 (by decide) [1, 2, 3, 4, 0] rfl ?_
  refine g_loop (σ := Nat × Nat × (Nat → Int32) × Int32 × Int32 × Int64) (fun x9 => x9.1 + x9.2.1 ≤ 9999 ∧ x9.1 ≤ 10000 ∧ x9.2.1 ≤ ca ∧ ks_rs P x9.2.1 = rr) (fun x9 => 10001 - x9.1) (fun x9 => 0) (fun x9 => 0) (fun x9 => [(hb, .inr (5, [.ref hp, .ref ht, .ref hg, .ref ha, .ref hq])), (hp, .inr (2, [.ref p0, .ref p1, .ref p2, .ref p3, .ref p4])), (p0, .inl (cI, 12, .inl (fun i => nI (P.1 i)))), (p1, .inl (cI, 12, .inl (fun i => nI (P.2.1 i)))), (p2, .inl (cI, 12, .inl (fun i => nI (P.2.2.1 i)))), (p3, .inl (cI, 24, .inl (fun i => ks_tI (P.2.2.2.1 i)))), (p4, .inl (cZ, 12, .inl (fun i => bI (P.2.2.2.2 i)))), (ht, .inr (4, [.ref t0, .int x9.2.2.2.1, .int x9.2.2.2.2.1, .long x9.2.2.2.2.2])), (t0, .inl (cI, 30, .inl x9.2.2.1))]) (fun x9 => [(0, .ref hb), (1, .int (nI ca)), (2, .int (nI rr)), (3, .int (nI x9.2.1)), (4, .int (nI x9.1))]) (fun x9 hI ih5 => ?_) (0, ca, fp, ts, tr, tf) (by (try dsimp only); exact ⟨by omega, by omega, Nat.le_refl _, hrr.symm⟩) rfl rfl (by (try dsimp only) <;> rfl) (by (try dsimp only) <;> rfl)
  obtain ⟨q, le, fpx, tsl, trl, tfl⟩ := x9
  try dsimp only at hI ih5 ⊢
  obtain ⟨i1, i2, i3, i4⟩ := hI
  refine g_iload B dX5_shrunk_5 4 rfl ?_
  refine g_sipush (v := (10000 : Int32)) B dX5_shrunk_7 (by decide) ?_
  refine g_ncmp_ge (tgt := 54) B q 10000 rfl rfl (by omega) (by omega) dX5_shrunk_10 (by decide) (fun c2 => ?_) (fun c2 => ?_)
  · exfalso; omega
  refine g_iload_n B dX5_shrunk_13 3 rfl ?_
  refine g_istore (lv' := [(0, .ref hb), (1, .int (nI ca)), (2, .int (nI rr)), (3, .int (nI le)), (4, .int (nI q)), (5, .int (nI le))]) B dX5_shrunk_14 (by decide) [1, 2, 3, 4, 5, 0] rfl ?_
  refine g_iconst (v := (0 : Int32)) B dX5_shrunk_16 (by decide) ?_
  refine g_istore (lv' := [(0, .ref hb), (1, .int (nI ca)), (2, .int (nI rr)), (3, .int (nI le)), (4, .int (nI q)), (5, .int (nI le)), (6, .int (0 : Int32))]) B dX5_shrunk_17 (by decide) [1, 2, 3, 4, 5, 6, 0] rfl ?_
  refine g_loop (σ := Nat × Nat × (Nat → Int32) × Int32 × Int32 × Int64) (fun x9 => x9.1 ≤ 4 ∧ x9.2.1 ≤ le ∧ ks_rs P x9.2.1 = rr ∧ (x9.2.1 = le → ∀ s, s < x9.1 → ∀ w, w < ks_dg le s → ¬ ks_rs P (ks_wv le s w) = rr)) (fun x9 => 5 - x9.1) (fun x9 => 0) (fun x9 => 0) (fun x9 => [(hb, .inr (5, [.ref hp, .ref ht, .ref hg, .ref ha, .ref hq])), (hp, .inr (2, [.ref p0, .ref p1, .ref p2, .ref p3, .ref p4])), (p0, .inl (cI, 12, .inl (fun i => nI (P.1 i)))), (p1, .inl (cI, 12, .inl (fun i => nI (P.2.1 i)))), (p2, .inl (cI, 12, .inl (fun i => nI (P.2.2.1 i)))), (p3, .inl (cI, 24, .inl (fun i => ks_tI (P.2.2.2.1 i)))), (p4, .inl (cZ, 12, .inl (fun i => bI (P.2.2.2.2 i)))), (ht, .inr (4, [.ref t0, .int x9.2.2.2.1, .int x9.2.2.2.2.1, .long x9.2.2.2.2.2])), (t0, .inl (cI, 30, .inl x9.2.2.1))]) (fun x9 => [(0, .ref hb), (1, .int (nI ca)), (2, .int (nI rr)), (3, .int (nI x9.2.1)), (4, .int (nI q)), (5, .int (nI le)), (6, .int (nI x9.1))]) (fun x9 hI ih19 => ?_) (0, le, fpx, tsl, trl, tfl) (by (try dsimp only); exact ⟨by omega, Nat.le_refl _, i4, fun _ s h => absurd h (Nat.not_lt_zero s)⟩) rfl rfl (by (try dsimp only) <;> rfl) (by (try dsimp only) <;> rfl)
  obtain ⟨k, lw, fpx, tsl, trl, tfl⟩ := x9
  try dsimp only at hI ih19 ⊢
  obtain ⟨j1, j2, j3, j4⟩ := hI
  refine g_iload B dX5_shrunk_19 6 rfl ?_
  refine g_iconst (v := (4 : Int32)) B dX5_shrunk_21 (by decide) ?_
  refine g_ncmp_ge (tgt := 40) B k 4 rfl rfl (by omega) (by omega) dX5_shrunk_22 (by decide) (fun c4 => ?_) (fun c4 => ?_)
  · refine g_iload_n B dX5_shrunk_40 3 rfl ?_
    refine g_iload B dX5_shrunk_41 5 rfl ?_
    refine g_ncmp_ne (tgt := 48) B lw le rfl rfl (by omega) (by omega) dX5_shrunk_43 (by decide) (fun c6 => ?_) (fun c6 => ?_)
    · refine g_iinc (lv' := [(0, .ref hb), (1, .int (nI ca)), (2, .int (nI rr)), (3, .int (nI lw)), (4, .int (nI (q + 1))), (5, .int (nI le)), (6, .int (nI k))]) B dX5_shrunk_48 4 rfl (nI_1 q) (by decide) [1, 2, 3, 4, 0, 5, 6] rfl ?_
      refine g_goto (tgt := 5) B dX5_shrunk_51 (by decide) ?_
      have ihx7 := ih5 (q + 1, lw, fpx, tsl, trl, tfl)
      try dsimp only at ihx7
      exact g_pick [0, 1, 2, 3, 4] rfl (ihx7 (⟨by omega, by omega, by omega, j3⟩) (by (try dsimp only); omega))
    · refine g_iload_n B dX5_shrunk_46 3 rfl ?_
      exact g_iret_w B hr rfl hlocks (fpx, tsl, trl, tfl, lw) (rfl) (by (try dsimp only); exact ⟨j3.trans hrr, by omega, fun s hs w hw e => by have e1 : lw = le := c6; rw [e1] at hw e; exact j4 e1 s (by omega) w hw (e.trans hrr.symm)⟩) [0, 1, 2, 3, 4, 5, 6, 7, 8] (by decide) (by (try dsimp only) <;> rfl) dX5_shrunk_47
  · refine g_aload_n B dX5_shrunk_25 0 rfl ?_
    refine g_iload B dX5_shrunk_26 6 rfl ?_
    refine g_iload_n B dX5_shrunk_28 3 rfl ?_
    refine g_iload_n B dX5_shrunk_29 2 rfl ?_
    refine g_callW (w2 := (fun (z9 : (Nat → Int32) × Int32 × Int32 × Int64) => [(hb, .inr (5, [.ref hp, .ref ht, .ref hg, .ref ha, .ref hq])), (hp, .inr (2, [.ref p0, .ref p1, .ref p2, .ref p3, .ref p4])), (p0, .inl (cI, 12, .inl (fun i => nI (P.1 i)))), (p1, .inl (cI, 12, .inl (fun i => nI (P.2.1 i)))), (p2, .inl (cI, 12, .inl (fun i => nI (P.2.2.1 i)))), (p3, .inl (cI, 24, .inl (fun i => ks_tI (P.2.2.2.1 i)))), (p4, .inl (cZ, 12, .inl (fun i => bI (P.2.2.2.2 i)))), (ht, .inr (4, [.ref t0, .int z9.2.1, .int z9.2.2.1, .long z9.2.2.2])), (t0, .inl (cI, 30, .inl z9.1))])) (g_runV (q0 := 0) (ci := 5) B hK rfl rfl (k_shrunkAt l (D := D) (cI := cI) (cL := cL) (cZ := cZ) (cQ := cQ) hb hp ht hg ha hq p0 p1 p2 p3 p4 P t0 fpx tsl trl tfl k lw rr (by first | with_reducible assumption | omega | assumption) (by first | with_reducible assumption | omega | assumption) (by first | with_reducible assumption | omega | assumption) (by first | with_reducible assumption | omega | assumption)) (gPw.pre (av := [.ref hb, .int (nI k), .int (nI lw), .int (nI rr)]) (wc := [(hb, .inr (5, [.ref hp, .ref ht, .ref hg, .ref ha, .ref hq])), (hp, .inr (2, [.ref p0, .ref p1, .ref p2, .ref p3, .ref p4])), (p0, .inl (cI, 12, .inl (fun i => nI (P.1 i)))), (p1, .inl (cI, 12, .inl (fun i => nI (P.2.1 i)))), (p2, .inl (cI, 12, .inl (fun i => nI (P.2.2.1 i)))), (p3, .inl (cI, 24, .inl (fun i => ks_tI (P.2.2.2.1 i)))), (p4, .inl (cZ, 12, .inl (fun i => bI (P.2.2.2.2 i)))), (ht, .inr (4, [.ref t0, .int tsl, .int trl, .long tfl])), (t0, .inl (cI, 30, .inl fpx))]) hK hN [0, 1, 2, 3, 4, 5, 6, 7, 8] rfl (by decide)) gX5_shrunk_X5_shrunkAt rfl rfl kd_X5_shrunkAt ⟨by decide, by decide⟩ (st := []) rfl (Nat.le_of_ble_eq_true rfl) dX5_shrunk_30 ⟨by decide, by decide⟩) hA (fun _ h => h) [0, 1, 2, 3, 4, 5, 6, 7, 8] [] (wr := []) rfl rfl (by decide) (by decide) [0, 1, 2, 3, 4, 5, 6, 7, 8] (by decide) (fun _ => rfl) (fun u hu => ?_)
    obtain ⟨fp2_8, tsx_8, trx_8, tfx_8⟩ := u
    try dsimp only at hu ⊢
    have w8 := @ks_sa_le P lw k rr
    refine g_istore_n (lv' := [(0, .ref hb), (1, .int (nI ca)), (2, .int (nI rr)), (3, .int (nI (ks_sa P lw k rr))), (4, .int (nI q)), (5, .int (nI le)), (6, .int (nI k))]) B dX5_shrunk_33 rfl (by decide) [1, 2, 3, 0, 4, 5, 6] rfl ?_
    refine g_iinc (lv' := [(0, .ref hb), (1, .int (nI ca)), (2, .int (nI rr)), (3, .int (nI (ks_sa P lw k rr))), (4, .int (nI q)), (5, .int (nI le)), (6, .int (nI (k + 1)))]) B dX5_shrunk_34 6 rfl (nI_1 k) (by decide) [1, 2, 3, 4, 5, 6, 0] rfl ?_
    refine g_goto (tgt := 19) B dX5_shrunk_37 (by decide) ?_
    have ihx9 := ih19 (k + 1, ks_sa P lw k rr, fp2_8, tsx_8, trx_8, tfx_8)
    try dsimp only at ihx9
    exact ihx9 (⟨by omega, by omega, ks_sa_rs j3, fun hz s hs => (Decidable.em (s = k)).elim (fun hsk => by have e1 : lw = le := (by omega); subst hsk; subst e1; exact ks_sa_no hz) (fun hsk => j4 (by omega) s (by omega))⟩) (by (try dsimp only); omega)

