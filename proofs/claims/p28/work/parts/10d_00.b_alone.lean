set_option maxHeartbeats 400000 in
set_option maxRecDepth 100000 in
theorem b_alone (l : Launch) {D : va_G} {cI cL cZ cQ : ClassId} (gb : Nat) (gn : Nat) (gv : Nat) (gk : Nat) (gr : Nat) (hb : Nat) (b : Nat) (dw : Nat) (sd : Nat) (na : Nat → Nat) (wa : Nat → Nat) (ra : Nat → Nat) (ka : Nat → Nat) (P : Pg) (W : Wg) (Q : Rg) (rc : Nat) (t : Nat → Nat) (n : Nat) (S : Int64) (mu : Nat → Nat) (ca : Nat) (hW : ks_WP P) (hca : ca < 10000) (hn16 : n ≤ 16) (ht4 : ∀ i, i < n → t i < 10000) : WM l yX6_alone wsX6_alone ({ frames := 4, cells := 4 + 4 * n, slots := 90 + 90 * n, locals := 135 } : Room) D (gTys cI cL cZ cQ) [.ref gb, .int (nI ca)] ([(gb, .inr (6, [.ref hb, .ref b, .int (nI dw), .ref gn, .ref gv, .int (nI sd), .ref gk, .ref gr])), (gn, .inl (cQ, 12, .inr (.inr (.inr (.inr (fun i => some (na i))))))), (gk, .inl (cQ, n, .inr (.inr (.inr (.inr (fun i => some (ka i)))))))] ++ (tl_T cI 12 na (ks_nr P) 4 wa (ks_wr W) rc ra (ks_rr Q) n ka (ks_kn t S mu))) (fun (_ : Unit) => True) (fun (_ : Unit) => some (.int (nI (ks_av P t n S ca)))) (fun (_ : Unit) => ([(gb, .inr (6, [.ref hb, .ref b, .int (nI dw), .ref gn, .ref gv, .int (nI sd), .ref gk, .ref gr])), (gn, .inl (cQ, 12, .inr (.inr (.inr (.inr (fun i => some (na i))))))), (gk, .inl (cQ, n, .inr (.inr (.inr (.inr (fun i => some (ka i)))))))] ++ (tl_T cI 12 na (ks_nr P) 4 wa (ks_wr W) rc ra (ks_rr Q) n ka (ks_kn t S mu)))) := by
  refine WM.ofG cX6_alone 9 (some .int) (by decide +kernel) rfl (Nat.le_of_ble_eq_true rfl) ?_
  intro p e s m below meth c A hA B hr hlocks hname hK hN
  refine g_aload_n B dX6_alone_0 0 rfl ?_
  refine g_iload_n B dX6_alone_1 1 rfl ?_
  refine g_callT (w2 := (fun (z9 : Nat × (Nat → Bool)) => [(gb, .inr (6, [.ref hb, .ref b, .int (nI dw), .ref gn, .ref gv, .int (nI sd), .ref gk, .ref gr])), (gn, .inl (cQ, 12, .inr (.inr (.inr (.inr (fun i => some (na i))))))), (gk, .inl (cQ, n, .inr (.inr (.inr (.inr (fun i => some (ka i))))))), (z9.1, .inl (cZ, 24, .inl (fun i => bI (z9.2 i))))])) (Tx := (fun (z9 : Nat × (Nat → Bool)) => (tl_T cI 12 na (ks_nr P) 4 wa (ks_wr W) rc ra (ks_rr Q) n ka (ks_kn t S mu)))) (rx := (fun (z9 : Nat × (Nat → Bool)) => [(gb, .inr (6, [.ref hb, .ref b, .int (nI dw), .ref gn, .ref gv, .int (nI sd), .ref gk, .ref gr])), (gn, .inl (cQ, 12, .inr (.inr (.inr (.inr (fun i => some (na i))))))), (z9.1, .inl (cZ, 24, .inl (fun i => bI (z9.2 i))))])) (g_runV (q0 := 0) (ci := 6) B hK rfl rfl (b_covered l (D := D) (cI := cI) (cL := cL) (cZ := cZ) (cQ := cQ) gb gn gv gk gr hb b dw sd na wa ra ka P W Q rc t n S mu ca (by first | with_reducible assumption | omega | assumption) (by first | with_reducible assumption | omega | assumption)) (gPw.preT (av := [.ref gb, .int (nI ca)]) (cx := [(gb, .inr (6, [.ref hb, .ref b, .int (nI dw), .ref gn, .ref gv, .int (nI sd), .ref gk, .ref gr])), (gn, .inl (cQ, 12, .inr (.inr (.inr (.inr (fun i => some (na i)))))))]) hK hN [0, 1] rfl (by decide)) gX6_alone_X6_covered rfl rfl kd_X6_covered ⟨Nat.le_of_ble_eq_true rfl, Nat.le_of_ble_eq_true rfl⟩ (st := []) rfl (Nat.le_of_ble_eq_true rfl) dX6_alone_2 ⟨by (try dsimp only); omega, by (try dsimp only); omega⟩) hA (fun _ h => h) [0, 1] [2] (wr := [(gk, .inl (cQ, n, .inr (.inr (.inr (.inr (fun i => some (ka i)))))))]) rfl rfl (by decide) (by decide) [1, 2, 0, 3] (by decide) (fun _ => rfl) (fun u hu => ?_)
  obtain ⟨r_1, pv_1⟩ := u
  try dsimp only at hu ⊢
  have hu1 := hu
  refine g_astore_n (lv' := [(0, .ref gb), (1, .int (nI ca)), (2, .ref r_1)]) B dX6_alone_5 rfl (by decide) [1, 2, 0] rfl ?_
  refine g_aload_n B dX6_alone_6 0 rfl ?_
  refine g_get (C := RX6) (T := TX6) (N := 8) (ci := 6) B hK hin_X6_alone_RX6 0 rfl rfl 6 (by decide) (List.mem_of_getElem? (i := 1) rfl) rfl (v := .ref gk) rfl dX6_alone_7 ?_
  refine g_astore_n (lv' := [(0, .ref gb), (1, .int (nI ca)), (2, .ref r_1), (3, .ref gk)]) B dX6_alone_10 rfl (by decide) [1, 2, 3, 0] rfl ?_
  refine g_aload_n B dX6_alone_11 3 rfl ?_
  refine g_alen (v := nI n) B hK 2 3 rfl rfl rfl dX6_alone_12 ?_
  refine g_istore (lv' := [(0, .ref gb), (1, .int (nI ca)), (2, .ref r_1), (3, .ref gk), (4, .int (nI n))]) B dX6_alone_13 (by decide) [1, 2, 3, 4, 0] rfl ?_
  refine g_iconst (v := (0 : Int32)) B dX6_alone_15 (by decide) ?_
  refine g_istore (lv' := [(0, .ref gb), (1, .int (nI ca)), (2, .ref r_1), (3, .ref gk), (4, .int (nI n)), (5, .int (0 : Int32))]) B dX6_alone_16 (by decide) [1, 2, 3, 4, 5, 0] rfl ?_
  refine g_widen (k := 4 + 4 * 0) (n := 90 + 90 * 0) (by (try dsimp only); omega) (by (try dsimp only); omega) ?_
  refine g_loop (σ := Nat × (Nat → Bool)) (fun x9 => x9.1 ≤ n ∧ ∀ b, b < 24 → x9.2 b = ks_bk P t S ca x9.1 b) (fun x9 => 17 - x9.1) (fun x9 => 4 + 4 * x9.1) (fun x9 => 90 + 90 * x9.1) (fun x9 => ([(gb, .inr (6, [.ref hb, .ref b, .int (nI dw), .ref gn, .ref gv, .int (nI sd), .ref gk, .ref gr])), (gn, .inl (cQ, 12, .inr (.inr (.inr (.inr (fun i => some (na i))))))), (gk, .inl (cQ, n, .inr (.inr (.inr (.inr (fun i => some (ka i))))))), (r_1, .inl (cZ, 24, .inl (fun i => bI (x9.2 i))))] ++ (tl_T cI 12 na (ks_nr P) 4 wa (ks_wr W) rc ra (ks_rr Q) n ka (ks_kn t S mu)))) (fun x9 => [(0, .ref gb), (1, .int (nI ca)), (2, .ref r_1), (3, .ref gk), (4, .int (nI n)), (5, .int (nI x9.1))]) (fun x9 hI ih18 => ?_) (0, pv_1) (by (try dsimp only); exact ⟨by omega, hu1⟩) rfl rfl (by (try dsimp only) <;> rfl) (by (try dsimp only) <;> rfl)
  obtain ⟨k, pk⟩ := x9
  try dsimp only at hI ih18 ⊢
  obtain ⟨i1, i2⟩ := hI
  refine g_iload B dX6_alone_18 5 rfl ?_
  refine g_iload B dX6_alone_20 4 rfl ?_
  refine g_ncmp_ge (tgt := 101) B k n rfl rfl (by omega) (by omega) dX6_alone_22 (by decide) (fun c3 => ?_) (fun c3 => ?_)
  · refine g_aload_n B dX6_alone_101 2 rfl ?_
    refine g_callP (g_runS B (PM.met (b_count l (D := D) (cI := cI) (cL := cL) (cZ := cZ) (cQ := cQ) r_1 pk )) (gPp.pre (av := [.ref r_1]) (wc := [(r_1, .inl (cZ, 24, .inl (fun i => bI (pk i))))]) hK hN [3] rfl (by decide)) gX6_alone_X6_count rfl kd_X6_count ⟨Nat.le_of_ble_eq_true rfl, Nat.le_of_ble_eq_true rfl⟩ (st := []) rfl (Nat.le_of_ble_eq_true rfl) dX6_alone_102 ⟨by (try dsimp only); omega, by (try dsimp only); omega⟩) (fun u hu => ?_)
    refine g_widen (k := 4 + 4 * n) (n := 90 + 90 * n) (by (try dsimp only); omega) (by (try dsimp only); omega) ?_
    refine g_subT (X2 := [(gb, .inr (6, [.ref hb, .ref b, .int (nI dw), .ref gn, .ref gv, .int (nI sd), .ref gk, .ref gr])), (gn, .inl (cQ, 12, .inr (.inr (.inr (.inr (fun i => some (na i))))))), (gk, .inl (cQ, n, .inr (.inr (.inr (.inr (fun i => some (ka i)))))))]) [0, 1, 2] (by decide) rfl ?_
    exact g_iret_x B hr rfl hlocks () (by rw [show ks_av P t n S ca = fb_ct (ks_bk P t S ca n) 24 from rfl]; rw [show k = n by omega] at i2; rw [fb_ct_cong (q := ks_bk P t S ca n) i2]) (trivial) rfl dX6_alone_105
  · refine g_aload_n B dX6_alone_25 3 rfl ?_
    refine g_iload B dX6_alone_26 5 rfl ?_
    refine g_qald B hK 2 3 rfl rfl k rfl (by omega) (by omega) (r := (ka k)) rfl dX6_alone_28 ?_
    refine g_astore (lv' := [(0, .ref gb), (1, .int (nI ca)), (2, .ref r_1), (3, .ref gk), (4, .int (nI n)), (5, .int (nI k)), (6, .ref (ka k))]) B dX6_alone_29 (by decide) [1, 2, 3, 4, 5, 6, 0] rfl ?_
    refine g_aload B dX6_alone_31 6 rfl ?_
    refine g_iconst (v := (1 : Int32)) B dX6_alone_33 (by decide) ?_
    refine g_iald B hK _ 0 (tl_g4 (i := k) (by omega)) rfl 1 rfl (by omega) (by omega) (v := bI (hasB S k)) (rfl) dX6_alone_34 ?_
    refine g_bif_eq (tgt := 95) B dX6_alone_35 (by decide) (fun c5 => ?_) (fun c5 => ?_)
    · refine g_iinc (lv' := [(0, .ref gb), (1, .int (nI ca)), (2, .ref r_1), (3, .ref gk), (4, .int (nI n)), (5, .int (nI (k + 1))), (6, .ref (ka k))]) B dX6_alone_95 5 rfl (nI_1 k) (by decide) [1, 2, 3, 4, 5, 0, 6] rfl ?_
      refine g_goto (tgt := 18) B dX6_alone_98 (by decide) ?_
      refine g_widen (k := 4 + 4 * (k + 1)) (n := 90 + 90 * (k + 1)) (by (try dsimp only); omega) (by (try dsimp only); omega) ?_
      have ihx6 := ih18 (k + 1, pk)
      try dsimp only at ihx6
      exact g_pick [0, 1, 2, 3, 4, 5] rfl (ihx6 (⟨by omega, fun b hb => by rw [i2 b hb, bk_no (by rw [c5]; rfl)]⟩) (by (try dsimp only); omega))
    · have v2 := ht4 k (by omega)
      refine g_aload B dX6_alone_38 6 rfl ?_
      refine g_iconst (v := (0 : Int32)) B dX6_alone_40 (by decide) ?_
      refine g_iald B hK _ 0 (tl_g4 (i := k) (by omega)) rfl 0 rfl (by omega) (by omega) (v := nI (t k)) (rfl) dX6_alone_41 ?_
      refine g_iload_n B dX6_alone_42 1 rfl ?_
      refine g_ncmp_ne (tgt := 49) B (t k) ca rfl rfl (by omega) (by omega) dX6_alone_43 (by decide) (fun c8 => ?_) (fun c8 => ?_)
      · refine g_aload_n B dX6_alone_49 0 rfl ?_
        refine g_aload B dX6_alone_50 6 rfl ?_
        refine g_iconst (v := (0 : Int32)) B dX6_alone_52 (by decide) ?_
        refine g_iald B hK _ 0 (tl_g4 (i := k) (by omega)) rfl 0 rfl (by omega) (by omega) (v := nI (t k)) (rfl) dX6_alone_53 ?_
        refine g_callT (w2 := (fun (z9 : Nat × (Nat → Bool)) => [(gb, .inr (6, [.ref hb, .ref b, .int (nI dw), .ref gn, .ref gv, .int (nI sd), .ref gk, .ref gr])), (gn, .inl (cQ, 12, .inr (.inr (.inr (.inr (fun i => some (na i))))))), (gk, .inl (cQ, n, .inr (.inr (.inr (.inr (fun i => some (ka i))))))), (r_1, .inl (cZ, 24, .inl (fun i => bI (pk i)))), (z9.1, .inl (cZ, 24, .inl (fun i => bI (z9.2 i))))])) (Tx := (fun (z9 : Nat × (Nat → Bool)) => (tl_T cI 12 na (ks_nr P) 4 wa (ks_wr W) rc ra (ks_rr Q) n ka (ks_kn t S mu)))) (rx := (fun (z9 : Nat × (Nat → Bool)) => [(gb, .inr (6, [.ref hb, .ref b, .int (nI dw), .ref gn, .ref gv, .int (nI sd), .ref gk, .ref gr])), (gn, .inl (cQ, 12, .inr (.inr (.inr (.inr (fun i => some (na i))))))), (z9.1, .inl (cZ, 24, .inl (fun i => bI (z9.2 i))))])) (g_runV (q0 := 0) (ci := 6) B hK rfl rfl (b_covered l (D := D) (cI := cI) (cL := cL) (cZ := cZ) (cQ := cQ) gb gn gv gk gr hb b dw sd na wa ra ka P W Q rc t n S mu (t k) (by first | with_reducible assumption | omega | assumption) (by first | with_reducible assumption | omega | assumption)) (gPw.preT (av := [.ref gb, .int (nI (t k))]) (cx := [(gb, .inr (6, [.ref hb, .ref b, .int (nI dw), .ref gn, .ref gv, .int (nI sd), .ref gk, .ref gr])), (gn, .inl (cQ, 12, .inr (.inr (.inr (.inr (fun i => some (na i)))))))]) hK hN [0, 1] rfl (by decide)) gX6_alone_X6_covered rfl rfl kd_X6_covered ⟨Nat.le_of_ble_eq_true rfl, Nat.le_of_ble_eq_true rfl⟩ (st := []) rfl (Nat.le_of_ble_eq_true rfl) dX6_alone_54 ⟨by (try dsimp only); omega, by (try dsimp only); omega⟩) hA (fun _ h => h) [0, 1] [2, 3] (wr := [(gk, .inl (cQ, n, .inr (.inr (.inr (.inr (fun i => some (ka i))))))), (r_1, .inl (cZ, 24, .inl (fun i => bI (pk i))))]) rfl rfl (by decide) (by decide) [2, 3, 0, 1, 4] (by decide) (fun _ => rfl) (fun u hu => ?_)
        obtain ⟨r_9, pv_9⟩ := u
        try dsimp only at hu ⊢
        have hu9 := hu
        refine g_astore (lv' := [(0, .ref gb), (1, .int (nI ca)), (2, .ref r_1), (3, .ref gk), (4, .int (nI n)), (5, .int (nI k)), (6, .ref (ka k)), (7, .ref r_9)]) B dX6_alone_57 (by decide) [1, 2, 3, 4, 5, 6, 7, 0] rfl ?_
        refine g_iconst (v := (0 : Int32)) B dX6_alone_59 (by decide) ?_
        refine g_istore (lv' := [(0, .ref gb), (1, .int (nI ca)), (2, .ref r_1), (3, .ref gk), (4, .int (nI n)), (5, .int (nI k)), (6, .ref (ka k)), (7, .ref r_9), (8, .int (0 : Int32))]) B dX6_alone_60 (by decide) [1, 2, 3, 4, 5, 6, 7, 8, 0] rfl ?_
        refine g_pick [0, 1, 2, 3, 4, 5, 7, 8] (lv2 := [(0, .ref gb), (1, .int (nI ca)), (2, .ref r_1), (3, .ref gk), (4, .int (nI n)), (5, .int (nI k)), (7, .ref r_9), (8, .int (0 : Int32))]) rfl ?_
        refine g_widen (k := 8 + 4 * k) (n := 180 + 90 * k) (by (try dsimp only); omega) (by (try dsimp only); omega) ?_
        refine g_loop (σ := Nat × (Nat → Bool)) (fun x9 => x9.1 ≤ 24 ∧ ∀ b, x9.2 b = if b < x9.1 then pk b && !pv_9 b else pk b) (fun x9 => 25 - x9.1) (fun x9 => 8 + 4 * k) (fun x9 => 180 + 90 * k) (fun x9 => ([(gb, .inr (6, [.ref hb, .ref b, .int (nI dw), .ref gn, .ref gv, .int (nI sd), .ref gk, .ref gr])), (gn, .inl (cQ, 12, .inr (.inr (.inr (.inr (fun i => some (na i))))))), (gk, .inl (cQ, n, .inr (.inr (.inr (.inr (fun i => some (ka i))))))), (r_1, .inl (cZ, 24, .inl (fun i => bI (x9.2 i)))), (r_9, .inl (cZ, 24, .inl (fun i => bI (pv_9 i))))] ++ (tl_T cI 12 na (ks_nr P) 4 wa (ks_wr W) rc ra (ks_rr Q) n ka (ks_kn t S mu)))) (fun x9 => [(0, .ref gb), (1, .int (nI ca)), (2, .ref r_1), (3, .ref gk), (4, .int (nI n)), (5, .int (nI k)), (7, .ref r_9), (8, .int (nI x9.1))]) (fun x9 hI ih62 => ?_) (0, pk) (by (try dsimp only); exact ⟨by omega, fun b => by rw [if_neg (by omega)]⟩) rfl rfl (by (try dsimp only) <;> rfl) (by (try dsimp only) <;> rfl)
        obtain ⟨ei, pe⟩ := x9
        try dsimp only at hI ih62 ⊢
        obtain ⟨j1, j2⟩ := hI
        refine g_iload B dX6_alone_62 7 rfl ?_
        refine g_bipush (v := (24 : Int32)) B dX6_alone_64 (by decide) ?_
        refine g_ncmp_ge (tgt := 95) B ei 24 rfl rfl (by omega) (by omega) dX6_alone_66 (by decide) (fun c11 => ?_) (fun c11 => ?_)
        · refine g_iinc (lv' := [(0, .ref gb), (1, .int (nI ca)), (2, .ref r_1), (3, .ref gk), (4, .int (nI n)), (5, .int (nI (k + 1))), (7, .ref r_9), (8, .int (nI ei))]) B dX6_alone_95 5 rfl (nI_1 k) (by decide) [1, 2, 3, 4, 5, 0, 6, 7] rfl ?_
          refine g_goto (tgt := 18) B dX6_alone_98 (by decide) ?_
          refine g_subT (X2 := [(gb, .inr (6, [.ref hb, .ref b, .int (nI dw), .ref gn, .ref gv, .int (nI sd), .ref gk, .ref gr])), (gn, .inl (cQ, 12, .inr (.inr (.inr (.inr (fun i => some (na i))))))), (gk, .inl (cQ, n, .inr (.inr (.inr (.inr (fun i => some (ka i))))))), (r_1, .inl (cZ, 24, .inl (fun i => bI (pe i))))]) [0, 1, 2, 3] (by decide) rfl ?_
          refine g_widen (k := 4 + 4 * (k + 1)) (n := 90 + 90 * (k + 1)) (by (try dsimp only); omega) (by (try dsimp only); omega) ?_
          have ihx12 := ih18 (k + 1, pe)
          try dsimp only at ihx12
          exact g_pick [0, 1, 2, 3, 4, 5] rfl (ihx12 (⟨by omega, fun b hb => by rw [bk_yes c5 c8, j2 b, if_pos (by omega), i2 b hb, hu9 b hb]⟩) (by (try dsimp only); omega))
        · refine g_aload_n B dX6_alone_69 2 rfl ?_
          refine g_iload B dX6_alone_70 7 rfl ?_
          refine g_dup2_11 B dX6_alone_72 rfl rfl ?_
          refine g_zald B hK 3 2 rfl rfl ei rfl (by omega) (by omega) (v := bI (pe ei)) rfl dX6_alone_73 ?_
          refine g_aload B dX6_alone_74 6 rfl ?_
          refine g_iload B dX6_alone_76 7 rfl ?_
          refine g_zald B hK 4 2 rfl rfl ei rfl (by omega) (by omega) (v := bI (pv_9 ei)) rfl dX6_alone_78 ?_
          refine g_bif_ne (tgt := 86) B dX6_alone_79 (by decide) (fun c13 => ?_) (fun c13 => ?_)
          · refine g_iconst (v := (0 : Int32)) B dX6_alone_86 (by decide) ?_
            refine g_iand (v := (bI (pe ei) &&& (0 : Int32))) B dX6_alone_87 (rfl) ?_
            refine g_eqi (y := bI ((pe ei) && !pv_9 ei)) (by rw [c13]; cases (pe ei) <;> decide) ?_
            refine g_zast B hK 3 2 rfl rfl ei rfl (by omega) (by omega) (f2 := (fun i => bI ((updB pe ei ((pe ei) && !pv_9 ei)) i))) (upd_bI _ _ ((pe ei) && !pv_9 ei)) (w2 := ([(gb, .inr (6, [.ref hb, .ref b, .int (nI dw), .ref gn, .ref gv, .int (nI sd), .ref gk, .ref gr])), (gn, .inl (cQ, 12, .inr (.inr (.inr (.inr (fun i => some (na i))))))), (gk, .inl (cQ, n, .inr (.inr (.inr (.inr (fun i => some (ka i))))))), (r_1, .inl (cZ, 24, .inl (fun i => bI ((updB pe ei ((pe ei) && !pv_9 ei)) i)))), (r_9, .inl (cZ, 24, .inl (fun i => bI (pv_9 i))))] ++ (tl_T cI 12 na (ks_nr P) 4 wa (ks_wr W) rc ra (ks_rr Q) n ka (ks_kn t S mu)))) rfl (fun _ h => h) dX6_alone_88 ?_
            refine g_iinc (lv' := [(0, .ref gb), (1, .int (nI ca)), (2, .ref r_1), (3, .ref gk), (4, .int (nI n)), (5, .int (nI k)), (7, .ref r_9), (8, .int (nI (ei + 1)))]) B dX6_alone_89 7 rfl (nI_1 ei) (by decide) [1, 2, 3, 4, 5, 6, 7, 0] rfl ?_
            refine g_goto (tgt := 62) B dX6_alone_92 (by decide) ?_
            refine g_widen (k := 8 + 4 * k) (n := 180 + 90 * k) (by (try dsimp only); omega) (by (try dsimp only); omega) ?_
            have ihx14 := ih62 (ei + 1, (updB pe ei ((pe ei) && !pv_9 ei)))
            try dsimp only at ihx14
            exact ihx14 (⟨by omega, fun b => al_step j2 b⟩) (by (try dsimp only); omega)
          · refine g_iconst (v := (1 : Int32)) B dX6_alone_82 (by decide) ?_
            refine g_goto (tgt := 87) B dX6_alone_83 (by decide) ?_
            refine g_iand (v := (bI (pe ei) &&& (1 : Int32))) B dX6_alone_87 (rfl) ?_
            refine g_eqi (y := bI ((pe ei) && !pv_9 ei)) (by rw [c13]; cases (pe ei) <;> decide) ?_
            refine g_zast B hK 3 2 rfl rfl ei rfl (by omega) (by omega) (f2 := (fun i => bI ((updB pe ei ((pe ei) && !pv_9 ei)) i))) (upd_bI _ _ ((pe ei) && !pv_9 ei)) (w2 := ([(gb, .inr (6, [.ref hb, .ref b, .int (nI dw), .ref gn, .ref gv, .int (nI sd), .ref gk, .ref gr])), (gn, .inl (cQ, 12, .inr (.inr (.inr (.inr (fun i => some (na i))))))), (gk, .inl (cQ, n, .inr (.inr (.inr (.inr (fun i => some (ka i))))))), (r_1, .inl (cZ, 24, .inl (fun i => bI ((updB pe ei ((pe ei) && !pv_9 ei)) i)))), (r_9, .inl (cZ, 24, .inl (fun i => bI (pv_9 i))))] ++ (tl_T cI 12 na (ks_nr P) 4 wa (ks_wr W) rc ra (ks_rr Q) n ka (ks_kn t S mu)))) rfl (fun _ h => h) dX6_alone_88 ?_
            refine g_iinc (lv' := [(0, .ref gb), (1, .int (nI ca)), (2, .ref r_1), (3, .ref gk), (4, .int (nI n)), (5, .int (nI k)), (7, .ref r_9), (8, .int (nI (ei + 1)))]) B dX6_alone_89 7 rfl (nI_1 ei) (by decide) [1, 2, 3, 4, 5, 6, 7, 0] rfl ?_
            refine g_goto (tgt := 62) B dX6_alone_92 (by decide) ?_
            refine g_widen (k := 8 + 4 * k) (n := 180 + 90 * k) (by (try dsimp only); omega) (by (try dsimp only); omega) ?_
            have ihx15 := ih62 (ei + 1, (updB pe ei ((pe ei) && !pv_9 ei)))
            try dsimp only at ihx15
            exact ihx15 (⟨by omega, fun b => al_step j2 b⟩) (by (try dsimp only); omega)
      · refine g_goto (tgt := 95) B dX6_alone_46 (by decide) ?_
        refine g_iinc (lv' := [(0, .ref gb), (1, .int (nI ca)), (2, .ref r_1), (3, .ref gk), (4, .int (nI n)), (5, .int (nI (k + 1))), (6, .ref (ka k))]) B dX6_alone_95 5 rfl (nI_1 k) (by decide) [1, 2, 3, 4, 5, 0, 6] rfl ?_
        refine g_goto (tgt := 18) B dX6_alone_98 (by decide) ?_
        refine g_widen (k := 4 + 4 * (k + 1)) (n := 90 + 90 * (k + 1)) (by (try dsimp only); omega) (by (try dsimp only); omega) ?_
        have ihx16 := ih18 (k + 1, pk)
        try dsimp only at ihx16
        exact g_pick [0, 1, 2, 3, 4, 5] rfl (ihx16 (⟨by omega, fun b hb => by rw [i2 b hb, bk_no (by rw [decide_eq_true c8]; simp)]⟩) (by (try dsimp only); omega))

