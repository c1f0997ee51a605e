set_option maxHeartbeats 1000000 in
set_option maxRecDepth 100000 in
theorem b_run (l : Launch) {D : va_G} {cI cL cZ cQ : ClassId} (gb : Nat) (gn : Nat) (gv : Nat) (gk : Nat) (gr : Nat) (hb : Nat) (b : Nat) (dw : Nat) (sd : Nat) (na : Nat → Nat) (wa : Nat → Nat) (ra : Nat → Nat) (ka : Nat → Nat) (P : Pg) (W : Wg) (Q : Rg) (rc : Nat) (t : Nat → Nat) (n : Nat) (S : Int64) (mu : Nat → Nat) (ca : Nat) (hW : ks_WP P) (hca : ca < 10000) : WM l yX6_run wsX6_run ({ frames := 2, cells := 3, slots := 66, locals := 83 } : Room) D (gTys cI cL cZ cQ) [.ref gb, .int (nI ca)] ([(gb, .inr (6, [.ref hb, .ref b, .int (nI dw), .ref gn, .ref gv, .int (nI sd), .ref gk, .ref gr])), (gn, .inl (cQ, 12, .inr (.inr (.inr (.inr (fun i => some (na i)))))))] ++ (tl_T cI 12 na (ks_nr P) 4 wa (ks_wr W) rc ra (ks_rr Q) n ka (ks_kn t S mu))) (fun (q : Nat × (Nat → Int32)) => (∀ j, j < ks_st P ca → q.2 j = nI (ks_ek P ca j)) ∧ q.2 (ks_st P ca) = nI (ks_rs P ca)) (fun (q : Nat × (Nat → Int32)) => some (.ref q.1)) (fun (q : Nat × (Nat → Int32)) => ([(gb, .inr (6, [.ref hb, .ref b, .int (nI dw), .ref gn, .ref gv, .int (nI sd), .ref gk, .ref gr])), (gn, .inl (cQ, 12, .inr (.inr (.inr (.inr (fun i => some (na i))))))), (q.1, .inl (cI, (ks_st P ca + 1), .inl q.2))] ++ (tl_T cI 12 na (ks_nr P) 4 wa (ks_wr W) rc ra (ks_rr Q) n ka (ks_kn t S mu)))) := by
  refine WM.ofG cX6_run 9 (some (.array .int)) (by decide +kernel) rfl (Nat.le_of_ble_eq_true rfl) ?_
  intro p e s m below meth c A hA B hr hlocks hname hK hN
  refine g_bipush (v := (31 : Int32)) B dX6_run_0 (by decide) ?_
  refine g_newa B hK hA 0 rfl rfl (List.mem_of_getElem? (i := 1) rfl) rfl (31, .inl (fun _ => (0 : Int32))) (cellI_new 31) (by decide) (by decide) (by decide) (by decide) (by decide) dX6_run_2 (fun q1 => ?_)
  refine g_perm (tl_sw _ _ _) ?_
  refine g_eqw (w2 := ([(gb, .inr (6, [.ref hb, .ref b, .int (nI dw), .ref gn, .ref gv, .int (nI sd), .ref gk, .ref gr])), (gn, .inl (cQ, 12, .inr (.inr (.inr (.inr (fun i => some (na i))))))), (q1, .inl (cI, 31, .inl (fun _ => (0 : Int32))))] ++ (tl_T cI 12 na (ks_nr P) 4 wa (ks_wr W) rc ra (ks_rr Q) n ka (ks_kn t S mu)))) rfl ?_
  refine g_astore_n (lv' := [(0, .ref gb), (1, .int (nI ca)), (2, .ref q1)]) B dX6_run_4 rfl (by decide) [1, 2, 0] rfl ?_
  refine g_iload_n B dX6_run_5 1 rfl ?_
  refine g_callU (w2 := (fun (r_2 : Nat) => [(gb, .inr (6, [.ref hb, .ref b, .int (nI dw), .ref gn, .ref gv, .int (nI sd), .ref gk, .ref gr])), (gn, .inl (cQ, 12, .inr (.inr (.inr (.inr (fun i => some (na i))))))), (q1, .inl (cI, 31, .inl (fun _ => (0 : Int32)))), (r_2, .inl (cI, 4, .inl (fun i => nI ((ks_dg ca) i))))])) (g_runS B (b_slots l (D := D) (cI := cI) (cL := cL) (cZ := cZ) (cQ := cQ) ca (by first | with_reducible assumption | omega | assumption)) (gPw.pre (av := [.int (nI ca)]) (wc := []) hK hN [] rfl (by decide)) gX6_run_X6_slots rfl kd_X6_slots ⟨by decide, by decide⟩ (st := []) rfl (Nat.le_of_ble_eq_true rfl) dX6_run_6 ⟨by decide, by decide⟩) hA (fun _ h => h) [] [0, 1, 2] (wr := [(gb, .inr (6, [.ref hb, .ref b, .int (nI dw), .ref gn, .ref gv, .int (nI sd), .ref gk, .ref gr])), (gn, .inl (cQ, 12, .inr (.inr (.inr (.inr (fun i => some (na i))))))), (q1, .inl (cI, 31, .inl (fun _ => (0 : Int32))))]) rfl rfl (by decide) (by decide) [0, 1, 2, 3] (by decide) (fun _ => rfl) (fun u hu => ?_)
  obtain ⟨r_2, e9⟩ : ∃ z, z = u := ⟨_, rfl⟩; subst e9
  try dsimp only at hu ⊢
  refine g_astore_n (lv' := [(0, .ref gb), (1, .int (nI ca)), (2, .ref q1), (3, .ref r_2)]) B dX6_run_9 rfl (by decide) [1, 2, 3, 0] rfl ?_
  refine g_iconst (v := (0 : Int32)) B dX6_run_10 (by decide) ?_
  refine g_istore (lv' := [(0, .ref gb), (1, .int (nI ca)), (2, .ref q1), (3, .ref r_2), (4, .int (0 : Int32))]) B dX6_run_11 (by decide) [1, 2, 3, 4, 0] rfl ?_
  refine g_iconst (v := (0 : Int32)) B dX6_run_13 (by decide) ?_
  refine g_istore (lv' := [(0, .ref gb), (1, .int (nI ca)), (2, .ref q1), (3, .ref r_2), (4, .int (0 : Int32)), (5, .int (0 : Int32))]) B dX6_run_14 (by decide) [1, 2, 3, 4, 5, 0] rfl ?_
  refine g_widen (k := 2) (n := 35) (by (try dsimp only); omega) (by (try dsimp only); omega) ?_
  refine g_loop (σ := Nat × (Nat → Int32)) (fun x9 => x9.1 ≤ 30 ∧ (∀ j, j < x9.1 → ks_go P (ks_nd P ca j) = true) ∧ (∀ j, j < x9.1 → x9.2 j = nI (ks_ek P ca j)) ∧ ks_nd P ca x9.1 < 12) (fun x9 => 31 - x9.1) (fun x9 => 2) (fun x9 => 35) (fun x9 => ([(gb, .inr (6, [.ref hb, .ref b, .int (nI dw), .ref gn, .ref gv, .int (nI sd), .ref gk, .ref gr])), (gn, .inl (cQ, 12, .inr (.inr (.inr (.inr (fun i => some (na i))))))), (q1, .inl (cI, 31, .inl x9.2)), (r_2, .inl (cI, 4, .inl (fun i => nI ((ks_dg ca) i))))] ++ (tl_T cI 12 na (ks_nr P) 4 wa (ks_wr W) rc ra (ks_rr Q) n ka (ks_kn t S mu)))) (fun x9 => [(0, .ref gb), (1, .int (nI ca)), (2, .ref q1), (3, .ref r_2), (4, .int (nI (ks_nd P ca x9.1))), (5, .int (nI x9.1))]) (fun x9 hI ih16 => ?_) (0, (fun _ => (0 : Int32))) (⟨by omega, fun j h => absurd h (Nat.not_lt_zero j), fun j h => absurd h (Nat.not_lt_zero j), by show (0 : Nat) < 12; omega⟩) rfl rfl rfl rfl
  obtain ⟨k, fm⟩ := x9
  try dsimp only at hI ih16 ⊢
  obtain ⟨i1, i2, i3, i4⟩ := hI
  have v0 := hW.1 _ i4
  have v1 := hW.2.1 _ i4
  have v2 := hW.2.2.1 _ i4
  have v3 := ks_dg_lt ca (P.1 (ks_nd P ca k))
  refine g_iload B dX6_run_16 5 rfl ?_
  refine g_bipush (v := (30 : Int32)) B dX6_run_18 (by decide) ?_
  refine g_ncmp_ge (tgt := 181) B k 30 rfl rfl (by omega) (by omega) dX6_run_20 (by decide) (fun c3 => ?_) (fun c3 => ?_)
  · refine g_aload_n B dX6_run_181 2 rfl ?_
    refine g_bipush (v := (30 : Int32)) B dX6_run_182 (by decide) ?_
    refine g_aload_n B dX6_run_184 0 rfl ?_
    refine g_get (C := RX6) (T := TX6) (N := 8) (ci := 6) B hK hin_X6_run_RX6 0 rfl rfl 3 (by decide) (List.mem_of_getElem? (i := 2) rfl) rfl (v := .ref gn) rfl dX6_run_185 ?_
    refine g_iload B dX6_run_188 4 rfl ?_
    refine g_qald B hK 1 3 rfl rfl (ks_nd P ca k) rfl (by omega) (by omega) (r := (na (ks_nd P ca k))) rfl dX6_run_190 ?_
    refine g_iconst (v := (5 : Int32)) B dX6_run_191 (by decide) ?_
    refine g_iald B hK _ 0 (tl_g1 (i := (ks_nd P ca k)) (by omega)) rfl 5 rfl (by omega) (by omega) (v := bI (P.2.2.2.2 (ks_nd P ca k))) (rfl) dX6_run_192 ?_
    refine g_iconst (v := (1 : Int32)) B dX6_run_193 (by decide) ?_
    refine g_bcmp_ne (tgt := 205) B dX6_run_194 (by decide) (fun c4 => ?_) (fun c4 => ?_)
    · refine g_bipush (v := (112 : Int32)) B dX6_run_205 (by decide) ?_
      refine g_callU (w2 := (fun (z9 : Nat × (Nat → Int32)) => [(gb, .inr (6, [.ref hb, .ref b, .int (nI dw), .ref gn, .ref gv, .int (nI sd), .ref gk, .ref gr])), (gn, .inl (cQ, 12, .inr (.inr (.inr (.inr (fun i => some (na i))))))), (q1, .inl (cI, 31, .inl fm)), (r_2, .inl (cI, 4, .inl (fun i => nI ((ks_dg ca) i)))), (z9.1, .inl (cI, (30 + 1), .inl z9.2))])) (g_runS B (b_told l (D := D) (cI := cI) (cL := cL) (cZ := cZ) (cQ := cQ) q1 30 112 fm (by first | with_reducible assumption | omega | assumption)) (gPw.pre (av := [.ref q1, .int (30 : Int32), .int (112 : Int32)]) (wc := [(q1, .inl (cI, 31, .inl fm))]) hK hN [2] rfl (by decide)) gX6_run_X6_told rfl kd_X6_told ⟨by decide, by decide⟩ (st := []) rfl (Nat.le_of_ble_eq_true rfl) dX6_run_207 ⟨by (try dsimp only); omega, by (try dsimp only); omega⟩) hA (fun _ h => h) [2] [0, 1, 3] (wr := [(gb, .inr (6, [.ref hb, .ref b, .int (nI dw), .ref gn, .ref gv, .int (nI sd), .ref gk, .ref gr])), (gn, .inl (cQ, 12, .inr (.inr (.inr (.inr (fun i => some (na i))))))), (r_2, .inl (cI, 4, .inl (fun i => nI ((ks_dg ca) i))))]) rfl rfl (by decide) (by decide) [0, 1, 3, 2, 4] (by decide) (fun _ => rfl) (fun u hu => ?_)
      obtain ⟨r_5, h_5⟩ := u
      try dsimp only at hu ⊢
      have hu5 := hu
      have hk30 : k = 30 := by omega
      obtain ⟨z1, z2, z3⟩ := fw_C hk30 i2 i4 c4
      refine g_eqw (w2 := ([(gb, .inr (6, [.ref hb, .ref b, .int (nI dw), .ref gn, .ref gv, .int (nI sd), .ref gk, .ref gr])), (gn, .inl (cQ, 12, .inr (.inr (.inr (.inr (fun i => some (na i))))))), (q1, .inl (cI, 31, .inl fm)), (r_2, .inl (cI, 4, .inl (fun i => nI ((ks_dg ca) i)))), (r_5, .inl (cI, (ks_st P ca + 1), .inl h_5))] ++ (tl_T cI 12 na (ks_nr P) 4 wa (ks_wr W) rc ra (ks_rr Q) n ka (ks_kn t S mu)))) (by rw [show ks_st P ca = 30 by omega]) ?_
      refine g_widen (k := 3) (n := 66) (by (try dsimp only); omega) (by (try dsimp only); omega) ?_
      refine g_subT (X2 := [(gb, .inr (6, [.ref hb, .ref b, .int (nI dw), .ref gn, .ref gv, .int (nI sd), .ref gk, .ref gr])), (gn, .inl (cQ, 12, .inr (.inr (.inr (.inr (fun i => some (na i))))))), (r_5, .inl (cI, (ks_st P ca + 1), .inl h_5))]) [0, 1, 4] (by decide) rfl ?_
      exact g_aret_x B hr (Or.inr ⟨_, rfl⟩) hlocks (r_5, h_5) (rfl) (⟨fun j hj => by rw [hu5.1 j (by omega)]; exact i3 j (by omega), by rw [show ks_st P ca = 30 by omega, hu5.2, ← z2]⟩) rfl dX6_run_210
    · refine g_bipush (v := (100 : Int32)) B dX6_run_197 (by decide) ?_
      refine g_iload B dX6_run_199 4 rfl ?_
      refine g_iadd (v := nI (100 + (ks_nd P ca k))) B dX6_run_201 (nI_add 100 (ks_nd P ca k)) ?_
      refine g_goto (tgt := 207) B dX6_run_202 (by decide) ?_
      refine g_callU (w2 := (fun (z9 : Nat × (Nat → Int32)) => [(gb, .inr (6, [.ref hb, .ref b, .int (nI dw), .ref gn, .ref gv, .int (nI sd), .ref gk, .ref gr])), (gn, .inl (cQ, 12, .inr (.inr (.inr (.inr (fun i => some (na i))))))), (q1, .inl (cI, 31, .inl fm)), (r_2, .inl (cI, 4, .inl (fun i => nI ((ks_dg ca) i)))), (z9.1, .inl (cI, (30 + 1), .inl z9.2))])) (g_runS B (b_told l (D := D) (cI := cI) (cL := cL) (cZ := cZ) (cQ := cQ) q1 30 (100 + (ks_nd P ca k)) fm (by first | with_reducible assumption | omega | assumption)) (gPw.pre (av := [.ref q1, .int (30 : Int32), .int (nI (100 + (ks_nd P ca k)))]) (wc := [(q1, .inl (cI, 31, .inl fm))]) hK hN [2] rfl (by decide)) gX6_run_X6_told rfl kd_X6_told ⟨by decide, by decide⟩ (st := []) rfl (Nat.le_of_ble_eq_true rfl) dX6_run_207 ⟨by (try dsimp only); omega, by (try dsimp only); omega⟩) hA (fun _ h => h) [2] [0, 1, 3] (wr := [(gb, .inr (6, [.ref hb, .ref b, .int (nI dw), .ref gn, .ref gv, .int (nI sd), .ref gk, .ref gr])), (gn, .inl (cQ, 12, .inr (.inr (.inr (.inr (fun i => some (na i))))))), (r_2, .inl (cI, 4, .inl (fun i => nI ((ks_dg ca) i))))]) rfl rfl (by decide) (by decide) [0, 1, 3, 2, 4] (by decide) (fun _ => rfl) (fun u hu => ?_)
      obtain ⟨r_6, h_6⟩ := u
      try dsimp only at hu ⊢
      have hu6 := hu
      have hk30 : k = 30 := by omega
      obtain ⟨z1, z2, z3⟩ := fw_B i1 i2 i4 c4
      refine g_eqw (w2 := ([(gb, .inr (6, [.ref hb, .ref b, .int (nI dw), .ref gn, .ref gv, .int (nI sd), .ref gk, .ref gr])), (gn, .inl (cQ, 12, .inr (.inr (.inr (.inr (fun i => some (na i))))))), (q1, .inl (cI, 31, .inl fm)), (r_2, .inl (cI, 4, .inl (fun i => nI ((ks_dg ca) i)))), (r_6, .inl (cI, (ks_st P ca + 1), .inl h_6))] ++ (tl_T cI 12 na (ks_nr P) 4 wa (ks_wr W) rc ra (ks_rr Q) n ka (ks_kn t S mu)))) (by rw [show ks_st P ca = 30 by omega]) ?_
      refine g_widen (k := 3) (n := 66) (by (try dsimp only); omega) (by (try dsimp only); omega) ?_
      refine g_subT (X2 := [(gb, .inr (6, [.ref hb, .ref b, .int (nI dw), .ref gn, .ref gv, .int (nI sd), .ref gk, .ref gr])), (gn, .inl (cQ, 12, .inr (.inr (.inr (.inr (fun i => some (na i))))))), (r_6, .inl (cI, (ks_st P ca + 1), .inl h_6))]) [0, 1, 4] (by decide) rfl ?_
      exact g_aret_x B hr (Or.inr ⟨_, rfl⟩) hlocks (r_6, h_6) (rfl) (⟨fun j hj => by rw [hu6.1 j (by omega)]; exact i3 j (by omega), by rw [show ks_st P ca = 30 by omega, hu6.2, z2]⟩) rfl dX6_run_210
  · refine g_aload_n B dX6_run_23 0 rfl ?_
    refine g_get (C := RX6) (T := TX6) (N := 8) (ci := 6) B hK hin_X6_run_RX6 0 rfl rfl 3 (by decide) (List.mem_of_getElem? (i := 2) rfl) rfl (v := .ref gn) rfl dX6_run_24 ?_
    refine g_iload B dX6_run_27 4 rfl ?_
    refine g_qald B hK 1 3 rfl rfl (ks_nd P ca k) rfl (by omega) (by omega) (r := (na (ks_nd P ca k))) rfl dX6_run_29 ?_
    refine g_astore (lv' := [(0, .ref gb), (1, .int (nI ca)), (2, .ref q1), (3, .ref r_2), (4, .int (nI (ks_nd P ca k))), (5, .int (nI k)), (6, .ref (na (ks_nd P ca k)))]) B dX6_run_30 (by decide) [1, 2, 3, 4, 5, 6, 0] rfl ?_
    refine g_aload B dX6_run_32 6 rfl ?_
    refine g_iconst (v := (5 : Int32)) B dX6_run_34 (by decide) ?_
    refine g_iald B hK _ 0 (tl_g1 (i := (ks_nd P ca k)) (by omega)) rfl 5 rfl (by omega) (by omega) (v := bI (P.2.2.2.2 (ks_nd P ca k))) (rfl) dX6_run_35 ?_
    refine g_iconst (v := (1 : Int32)) B dX6_run_36 (by decide) ?_
    refine g_bcmp_ne (tgt := 52) B dX6_run_37 (by decide) (fun c7 => ?_) (fun c7 => ?_)
    · refine g_aload_n B dX6_run_52 3 rfl ?_
      refine g_aload B dX6_run_53 6 rfl ?_
      refine g_iconst (v := (0 : Int32)) B dX6_run_55 (by decide) ?_
      refine g_iald B hK _ 0 (tl_g1 (i := (ks_nd P ca k)) (by omega)) rfl 0 rfl (by omega) (by omega) (v := nI (P.1 (ks_nd P ca k))) (rfl) dX6_run_56 ?_
      refine g_iald B hK 3 0 rfl rfl (P.1 (ks_nd P ca k)) rfl (by omega) (by omega) (v := nI ((ks_dg ca) (P.1 (ks_nd P ca k)))) rfl dX6_run_57 ?_
      refine g_istore (lv' := [(0, .ref gb), (1, .int (nI ca)), (2, .ref q1), (3, .ref r_2), (4, .int (nI (ks_nd P ca k))), (5, .int (nI k)), (6, .ref (na (ks_nd P ca k))), (7, .int (nI ((ks_dg ca) (P.1 (ks_nd P ca k)))))]) B dX6_run_58 (by decide) [1, 2, 3, 4, 5, 6, 7, 0] rfl ?_
      refine g_aload B dX6_run_60 6 rfl ?_
      refine g_iconst (v := (1 : Int32)) B dX6_run_62 (by decide) ?_
      refine g_iald B hK _ 0 (tl_g1 (i := (ks_nd P ca k)) (by omega)) rfl 1 rfl (by omega) (by omega) (v := nI (P.2.1 (ks_nd P ca k))) (rfl) dX6_run_63 ?_
      refine g_nif_ne (tgt := 76) B (P.2.1 (ks_nd P ca k)) rfl (by omega) dX6_run_64 (by decide) (fun c8 => ?_) (fun c8 => ?_)
      · refine g_aload B dX6_run_76 6 rfl ?_
        refine g_iconst (v := (1 : Int32)) B dX6_run_78 (by decide) ?_
        refine g_iald B hK _ 0 (tl_g1 (i := (ks_nd P ca k)) (by omega)) rfl 1 rfl (by omega) (by omega) (v := nI (P.2.1 (ks_nd P ca k))) (rfl) dX6_run_79 ?_
        refine g_iconst (v := (1 : Int32)) B dX6_run_80 (by decide) ?_
        refine g_ncmp_ne (tgt := 93) B (P.2.1 (ks_nd P ca k)) 1 rfl rfl (by omega) (by omega) dX6_run_81 (by decide) (fun c9 => ?_) (fun c9 => ?_)
        · refine g_aload B dX6_run_93 6 rfl ?_
          refine g_iconst (v := (1 : Int32)) B dX6_run_95 (by decide) ?_
          refine g_iald B hK _ 0 (tl_g1 (i := (ks_nd P ca k)) (by omega)) rfl 1 rfl (by omega) (by omega) (v := nI (P.2.1 (ks_nd P ca k))) (rfl) dX6_run_96 ?_
          refine g_iconst (v := (2 : Int32)) B dX6_run_97 (by decide) ?_
          refine g_ncmp_ne (tgt := 114) B (P.2.1 (ks_nd P ca k)) 2 rfl rfl (by omega) (by omega) dX6_run_98 (by decide) (fun c10 => ?_) (fun c10 => ?_)
          · refine g_iconst (v := (0 : Int32)) B dX6_run_114 (by decide) ?_
            refine g_istore (lv' := [(0, .ref gb), (1, .int (nI ca)), (2, .ref q1), (3, .ref r_2), (4, .int (nI (ks_nd P ca k))), (5, .int (nI k)), (6, .ref (na (ks_nd P ca k))), (7, .int (nI ((ks_dg ca) (P.1 (ks_nd P ca k))))), (8, .int (0 : Int32))]) B dX6_run_115 (by decide) [1, 2, 3, 4, 5, 6, 7, 8, 0] rfl ?_
            have hso : ks_so P (ks_nd P ca k) ca = false := by unfold ks_so; split <;> (try split) <;> simp <;> omega
            refine g_aload_n B dX6_run_117 2 rfl ?_
            refine g_iload B dX6_run_118 5 rfl ?_
            refine g_iload B dX6_run_120 8 rfl ?_
            refine g_if_eq (tgt := 132) B dX6_run_122 (by decide) (fun _ => ?_) (fun c11 => absurd (by decide) c11)
            refine g_iconst (v := (2 : Int32)) B dX6_run_132 (by decide) ?_
            refine g_iload B dX6_run_133 4 rfl ?_
            refine g_imul (v := nI (2 * (ks_nd P ca k))) B dX6_run_135 (pk_mul 2 (ks_nd P ca k)) ?_
            refine g_iconst (v := (1 : Int32)) B dX6_run_136 (by decide) ?_
            refine g_iadd (v := nI ((2 * (ks_nd P ca k)) + 1)) B dX6_run_137 (nI_add (2 * (ks_nd P ca k)) 1) ?_
            refine g_eqi (y := nI (ks_ek P ca k)) (fw_ek0 hso) ?_
            have hg : ks_go P (ks_nd P ca k) = true := ks_go_of i4 c7
            have hek : ks_ek P ca k < 24 := (ks_eg_lt i4).1
            refine g_iast B hK 2 0 rfl rfl k rfl (by omega) (by omega) (f2 := (upd fm k (nI (ks_ek P ca k)))) (rfl) (w2 := ([(gb, .inr (6, [.ref hb, .ref b, .int (nI dw), .ref gn, .ref gv, .int (nI sd), .ref gk, .ref gr])), (gn, .inl (cQ, 12, .inr (.inr (.inr (.inr (fun i => some (na i))))))), (q1, .inl (cI, 31, .inl (upd fm k (nI (ks_ek P ca k))))), (r_2, .inl (cI, 4, .inl (fun i => nI ((ks_dg ca) i))))] ++ (tl_T cI 12 na (ks_nr P) 4 wa (ks_wr W) rc ra (ks_rr Q) n ka (ks_kn t S mu)))) rfl (fun _ h => h) dX6_run_138 ?_
            refine g_iload B dX6_run_139 8 rfl ?_
            refine g_if_eq (tgt := 151) B dX6_run_141 (by decide) (fun _ => ?_) (fun c12 => absurd (by decide) c12)
            refine g_aload B dX6_run_151 6 rfl ?_
            refine g_iconst (v := (4 : Int32)) B dX6_run_153 (by decide) ?_
            refine g_iald B hK _ 0 (tl_g1 (i := (ks_nd P ca k)) (by omega)) rfl 4 rfl (by omega) (by omega) (v := ks_tI (P.2.2.2.1 (2 * (ks_nd P ca k) + 1))) (rfl) dX6_run_154 ?_
            refine g_eqi (y := ks_tI (P.2.2.2.1 (ks_ek P ca k))) (by rw [show ks_ek P ca k = 2 * ks_nd P ca k + 1 from by unfold ks_ek ks_eg; rw [hso]; rfl]) ?_
            refine g_istore (lv' := [(0, .ref gb), (1, .int (nI ca)), (2, .ref q1), (3, .ref r_2), (4, .int (ks_tI (P.2.2.2.1 (ks_ek P ca k)))), (5, .int (nI k)), (6, .ref (na (ks_nd P ca k))), (7, .int (nI ((ks_dg ca) (P.1 (ks_nd P ca k))))), (8, .int (0 : Int32))]) B dX6_run_155 (by decide) [1, 2, 3, 4, 0, 5, 6, 7, 8] rfl ?_
            refine g_iload B dX6_run_157 4 rfl ?_
            refine g_tif_ge (tgt := 175) B dX6_run_159 (by decide) (fun c13 => ?_) (fun c13 => ?_)
            · have e1 := (ks_step hg).1
              have hn1 : ks_nd P ca (k + 1) < 12 := by rw [e1]; exact c13
              refine g_eqlv (lv2 := [(0, .ref gb), (1, .int (nI ca)), (2, .ref q1), (3, .ref r_2), (4, .int (nI (ks_nd P ca (k + 1)))), (5, .int (nI k)), (6, .ref (na (ks_nd P ca k))), (7, .int (nI ((ks_dg ca) (P.1 (ks_nd P ca k))))), (8, .int (0 : Int32))]) (by rw [e1, ks_tI_lt c13]) ?_
              refine g_iinc (lv' := [(0, .ref gb), (1, .int (nI ca)), (2, .ref q1), (3, .ref r_2), (4, .int (nI (ks_nd P ca (k + 1)))), (5, .int (nI (k + 1))), (6, .ref (na (ks_nd P ca k))), (7, .int (nI ((ks_dg ca) (P.1 (ks_nd P ca k))))), (8, .int (0 : Int32))]) B dX6_run_175 5 rfl (nI_1 k) (by decide) [1, 2, 3, 4, 5, 0, 6, 7, 8] rfl ?_
              refine g_goto (tgt := 16) B dX6_run_178 (by decide) ?_
              refine g_widen (k := 2) (n := 35) (by (try dsimp only); omega) (by (try dsimp only); omega) ?_
              exact g_pick [0, 1, 2, 3, 4, 5] rfl (ih16 (k + 1, (upd fm k (nI (ks_ek P ca k)))) (⟨by omega, lt_s i2 hg, lt_s (p := fun j => upd fm k (nI (ks_ek P ca k)) j = nI (ks_ek P ca j)) (fun a ha => by rw [pk_un (by omega)]; exact i3 a ha) pk_us, hn1⟩) (by (try dsimp only); omega))
            · refine g_aload_n B dX6_run_162 2 rfl ?_
              refine g_iload B dX6_run_163 5 rfl ?_
              refine g_iconst (v := (1 : Int32)) B dX6_run_165 (by decide) ?_
              refine g_iadd (v := nI (k + 1)) B dX6_run_166 (nI_add k 1) ?_
              refine g_aload_n B dX6_run_167 2 rfl ?_
              refine g_iload B dX6_run_168 5 rfl ?_
              refine g_iald B hK 2 0 rfl rfl k rfl (by omega) (by omega) (v := nI (ks_ek P ca k)) rfl dX6_run_170 ?_
              refine g_callU (w2 := (fun (z9 : Nat × (Nat → Int32)) => [(gb, .inr (6, [.ref hb, .ref b, .int (nI dw), .ref gn, .ref gv, .int (nI sd), .ref gk, .ref gr])), (gn, .inl (cQ, 12, .inr (.inr (.inr (.inr (fun i => some (na i))))))), (q1, .inl (cI, 31, .inl (upd fm k (nI (ks_ek P ca k))))), (r_2, .inl (cI, 4, .inl (fun i => nI ((ks_dg ca) i)))), (z9.1, .inl (cI, ((k + 1) + 1), .inl z9.2))])) (g_runS B (b_told l (D := D) (cI := cI) (cL := cL) (cZ := cZ) (cQ := cQ) q1 (k + 1) (ks_ek P ca k) (upd fm k (nI (ks_ek P ca k))) (by first | with_reducible assumption | omega | assumption)) (gPw.pre (av := [.ref q1, .int (nI (k + 1)), .int (nI (ks_ek P ca k))]) (wc := [(q1, .inl (cI, 31, .inl (upd fm k (nI (ks_ek P ca k)))))]) hK hN [2] rfl (by decide)) gX6_run_X6_told rfl kd_X6_told ⟨by decide, by decide⟩ (st := []) rfl (Nat.le_of_ble_eq_true rfl) dX6_run_171 ⟨by (try dsimp only); omega, by (try dsimp only); omega⟩) hA (fun _ h => h) [2] [0, 1, 3] (wr := [(gb, .inr (6, [.ref hb, .ref b, .int (nI dw), .ref gn, .ref gv, .int (nI sd), .ref gk, .ref gr])), (gn, .inl (cQ, 12, .inr (.inr (.inr (.inr (fun i => some (na i))))))), (r_2, .inl (cI, 4, .inl (fun i => nI ((ks_dg ca) i))))]) rfl rfl (by decide) (by decide) [0, 1, 3, 2, 4] (by decide) (fun _ => rfl) (fun u hu => ?_)
              obtain ⟨r_14, h_14⟩ := u
              try dsimp only at hu ⊢
              have hu14 := hu
              have hnx : ¬ ks_nd P ca (k + 1) < 12 := by rw [(ks_step hg).1]; exact c13
              obtain ⟨z1, z2, z3⟩ := fw_A (by omega) (lt_s i2 hg) hnx
              refine g_eqw (w2 := ([(gb, .inr (6, [.ref hb, .ref b, .int (nI dw), .ref gn, .ref gv, .int (nI sd), .ref gk, .ref gr])), (gn, .inl (cQ, 12, .inr (.inr (.inr (.inr (fun i => some (na i))))))), (q1, .inl (cI, 31, .inl (upd fm k (nI (ks_ek P ca k))))), (r_2, .inl (cI, 4, .inl (fun i => nI ((ks_dg ca) i)))), (r_14, .inl (cI, (ks_st P ca + 1), .inl h_14))] ++ (tl_T cI 12 na (ks_nr P) 4 wa (ks_wr W) rc ra (ks_rr Q) n ka (ks_kn t S mu)))) (by rw [show ks_st P ca = k + 1 by omega]) ?_
              refine g_widen (k := 3) (n := 66) (by (try dsimp only); omega) (by (try dsimp only); omega) ?_
              refine g_subT (X2 := [(gb, .inr (6, [.ref hb, .ref b, .int (nI dw), .ref gn, .ref gv, .int (nI sd), .ref gk, .ref gr])), (gn, .inl (cQ, 12, .inr (.inr (.inr (.inr (fun i => some (na i))))))), (r_14, .inl (cI, (ks_st P ca + 1), .inl h_14))]) [0, 1, 4] (by decide) rfl ?_
              exact g_aret_x B hr (Or.inr ⟨_, rfl⟩) hlocks (r_14, h_14) (rfl) (⟨fun j hj => by rw [← z1] at hj; rw [hu14.1 j hj]; exact lt_s (p := fun j => upd fm k (nI (ks_ek P ca k)) j = nI (ks_ek P ca j)) (fun a ha => by rw [pk_un (by omega)]; exact i3 a ha) pk_us j hj, by rw [← z1, hu14.2, ← z2, fw_rI hg]⟩) rfl dX6_run_174
          · refine g_iload B dX6_run_101 7 rfl ?_
            refine g_aload B dX6_run_103 6 rfl ?_
            refine g_iconst (v := (2 : Int32)) B dX6_run_105 (by decide) ?_
            refine g_iald B hK _ 0 (tl_g1 (i := (ks_nd P ca k)) (by omega)) rfl 2 rfl (by omega) (by omega) (v := nI (P.2.2.1 (ks_nd P ca k))) (rfl) dX6_run_106 ?_
            refine g_ncmp_le (tgt := 114) B ((ks_dg ca) (P.1 (ks_nd P ca k))) (P.2.2.1 (ks_nd P ca k)) rfl rfl (by omega) (by omega) dX6_run_107 (by decide) (fun c15 => ?_) (fun c15 => ?_)
            · refine g_iconst (v := (0 : Int32)) B dX6_run_114 (by decide) ?_
              refine g_istore (lv' := [(0, .ref gb), (1, .int (nI ca)), (2, .ref q1), (3, .ref r_2), (4, .int (nI (ks_nd P ca k))), (5, .int (nI k)), (6, .ref (na (ks_nd P ca k))), (7, .int (nI ((ks_dg ca) (P.1 (ks_nd P ca k))))), (8, .int (0 : Int32))]) B dX6_run_115 (by decide) [1, 2, 3, 4, 5, 6, 7, 8, 0] rfl ?_
              have hso : ks_so P (ks_nd P ca k) ca = false := by unfold ks_so; split <;> (try split) <;> simp <;> omega
              refine g_aload_n B dX6_run_117 2 rfl ?_
              refine g_iload B dX6_run_118 5 rfl ?_
              refine g_iload B dX6_run_120 8 rfl ?_
              refine g_if_eq (tgt := 132) B dX6_run_122 (by decide) (fun _ => ?_) (fun c16 => absurd (by decide) c16)
              refine g_iconst (v := (2 : Int32)) B dX6_run_132 (by decide) ?_
              refine g_iload B dX6_run_133 4 rfl ?_
              refine g_imul (v := nI (2 * (ks_nd P ca k))) B dX6_run_135 (pk_mul 2 (ks_nd P ca k)) ?_
              refine g_iconst (v := (1 : Int32)) B dX6_run_136 (by decide) ?_
              refine g_iadd (v := nI ((2 * (ks_nd P ca k)) + 1)) B dX6_run_137 (nI_add (2 * (ks_nd P ca k)) 1) ?_
              refine g_eqi (y := nI (ks_ek P ca k)) (fw_ek0 hso) ?_
              have hg : ks_go P (ks_nd P ca k) = true := ks_go_of i4 c7
              have hek : ks_ek P ca k < 24 := (ks_eg_lt i4).1
              refine g_iast B hK 2 0 rfl rfl k rfl (by omega) (by omega) (f2 := (upd fm k (nI (ks_ek P ca k)))) (rfl) (w2 := ([(gb, .inr (6, [.ref hb, .ref b, .int (nI dw), .ref gn, .ref gv, .int (nI sd), .ref gk, .ref gr])), (gn, .inl (cQ, 12, .inr (.inr (.inr (.inr (fun i => some (na i))))))), (q1, .inl (cI, 31, .inl (upd fm k (nI (ks_ek P ca k))))), (r_2, .inl (cI, 4, .inl (fun i => nI ((ks_dg ca) i))))] ++ (tl_T cI 12 na (ks_nr P) 4 wa (ks_wr W) rc ra (ks_rr Q) n ka (ks_kn t S mu)))) rfl (fun _ h => h) dX6_run_138 ?_
              refine g_iload B dX6_run_139 8 rfl ?_
              refine g_if_eq (tgt := 151) B dX6_run_141 (by decide) (fun _ => ?_) (fun c17 => absurd (by decide) c17)
              refine g_aload B dX6_run_151 6 rfl ?_
              refine g_iconst (v := (4 : Int32)) B dX6_run_153 (by decide) ?_
              refine g_iald B hK _ 0 (tl_g1 (i := (ks_nd P ca k)) (by omega)) rfl 4 rfl (by omega) (by omega) (v := ks_tI (P.2.2.2.1 (2 * (ks_nd P ca k) + 1))) (rfl) dX6_run_154 ?_
              refine g_eqi (y := ks_tI (P.2.2.2.1 (ks_ek P ca k))) (by rw [show ks_ek P ca k = 2 * ks_nd P ca k + 1 from by unfold ks_ek ks_eg; rw [hso]; rfl]) ?_
              refine g_istore (lv' := [(0, .ref gb), (1, .int (nI ca)), (2, .ref q1), (3, .ref r_2), (4, .int (ks_tI (P.2.2.2.1 (ks_ek P ca k)))), (5, .int (nI k)), (6, .ref (na (ks_nd P ca k))), (7, .int (nI ((ks_dg ca) (P.1 (ks_nd P ca k))))), (8, .int (0 : Int32))]) B dX6_run_155 (by decide) [1, 2, 3, 4, 0, 5, 6, 7, 8] rfl ?_
              refine g_iload B dX6_run_157 4 rfl ?_
              refine g_tif_ge (tgt := 175) B dX6_run_159 (by decide) (fun c18 => ?_) (fun c18 => ?_)
              · have e1 := (ks_step hg).1
                have hn1 : ks_nd P ca (k + 1) < 12 := by rw [e1]; exact c18
                refine g_eqlv (lv2 := [(0, .ref gb), (1, .int (nI ca)), (2, .ref q1), (3, .ref r_2), (4, .int (nI (ks_nd P ca (k + 1)))), (5, .int (nI k)), (6, .ref (na (ks_nd P ca k))), (7, .int (nI ((ks_dg ca) (P.1 (ks_nd P ca k))))), (8, .int (0 : Int32))]) (by rw [e1, ks_tI_lt c18]) ?_
                refine g_iinc (lv' := [(0, .ref gb), (1, .int (nI ca)), (2, .ref q1), (3, .ref r_2), (4, .int (nI (ks_nd P ca (k + 1)))), (5, .int (nI (k + 1))), (6, .ref (na (ks_nd P ca k))), (7, .int (nI ((ks_dg ca) (P.1 (ks_nd P ca k))))), (8, .int (0 : Int32))]) B dX6_run_175 5 rfl (nI_1 k) (by decide) [1, 2, 3, 4, 5, 0, 6, 7, 8] rfl ?_
                refine g_goto (tgt := 16) B dX6_run_178 (by decide) ?_
                refine g_widen (k := 2) (n := 35) (by (try dsimp only); omega) (by (try dsimp only); omega) ?_
                exact g_pick [0, 1, 2, 3, 4, 5] rfl (ih16 (k + 1, (upd fm k (nI (ks_ek P ca k)))) (⟨by omega, lt_s i2 hg, lt_s (p := fun j => upd fm k (nI (ks_ek P ca k)) j = nI (ks_ek P ca j)) (fun a ha => by rw [pk_un (by omega)]; exact i3 a ha) pk_us, hn1⟩) (by (try dsimp only); omega))
              · refine g_aload_n B dX6_run_162 2 rfl ?_
                refine g_iload B dX6_run_163 5 rfl ?_
                refine g_iconst (v := (1 : Int32)) B dX6_run_165 (by decide) ?_
                refine g_iadd (v := nI (k + 1)) B dX6_run_166 (nI_add k 1) ?_
                refine g_aload_n B dX6_run_167 2 rfl ?_
                refine g_iload B dX6_run_168 5 rfl ?_
                refine g_iald B hK 2 0 rfl rfl k rfl (by omega) (by omega) (v := nI (ks_ek P ca k)) rfl dX6_run_170 ?_
                refine g_callU (w2 := (fun (z9 : Nat × (Nat → Int32)) => [(gb, .inr (6, [.ref hb, .ref b, .int (nI dw), .ref gn, .ref gv, .int (nI sd), .ref gk, .ref gr])), (gn, .inl (cQ, 12, .inr (.inr (.inr (.inr (fun i => some (na i))))))), (q1, .inl (cI, 31, .inl (upd fm k (nI (ks_ek P ca k))))), (r_2, .inl (cI, 4, .inl (fun i => nI ((ks_dg ca) i)))), (z9.1, .inl (cI, ((k + 1) + 1), .inl z9.2))])) (g_runS B (b_told l (D := D) (cI := cI) (cL := cL) (cZ := cZ) (cQ := cQ) q1 (k + 1) (ks_ek P ca k) (upd fm k (nI (ks_ek P ca k))) (by first | with_reducible assumption | omega | assumption)) (gPw.pre (av := [.ref q1, .int (nI (k + 1)), .int (nI (ks_ek P ca k))]) (wc := [(q1, .inl (cI, 31, .inl (upd fm k (nI (ks_ek P ca k)))))]) hK hN [2] rfl (by decide)) gX6_run_X6_told rfl kd_X6_told ⟨by decide, by decide⟩ (st := []) rfl (Nat.le_of_ble_eq_true rfl) dX6_run_171 ⟨by (try dsimp only); omega, by (try dsimp only); omega⟩) hA (fun _ h => h) [2] [0, 1, 3] (wr := [(gb, .inr (6, [.ref hb, .ref b, .int (nI dw), .ref gn, .ref gv, .int (nI sd), .ref gk, .ref gr])), (gn, .inl (cQ, 12, .inr (.inr (.inr (.inr (fun i => some (na i))))))), (r_2, .inl (cI, 4, .inl (fun i => nI ((ks_dg ca) i))))]) rfl rfl (by decide) (by decide) [0, 1, 3, 2, 4] (by decide) (fun _ => rfl) (fun u hu => ?_)
                obtain ⟨r_19, h_19⟩ := u
                try dsimp only at hu ⊢
                have hu19 := hu
                have hnx : ¬ ks_nd P ca (k + 1) < 12 := by rw [(ks_step hg).1]; exact c18
                obtain ⟨z1, z2, z3⟩ := fw_A (by omega) (lt_s i2 hg) hnx
                refine g_eqw (w2 := ([(gb, .inr (6, [.ref hb, .ref b, .int (nI dw), .ref gn, .ref gv, .int (nI sd), .ref gk, .ref gr])), (gn, .inl (cQ, 12, .inr (.inr (.inr (.inr (fun i => some (na i))))))), (q1, .inl (cI, 31, .inl (upd fm k (nI (ks_ek P ca k))))), (r_2, .inl (cI, 4, .inl (fun i => nI ((ks_dg ca) i)))), (r_19, .inl (cI, (ks_st P ca + 1), .inl h_19))] ++ (tl_T cI 12 na (ks_nr P) 4 wa (ks_wr W) rc ra (ks_rr Q) n ka (ks_kn t S mu)))) (by rw [show ks_st P ca = k + 1 by omega]) ?_
                refine g_widen (k := 3) (n := 66) (by (try dsimp only); omega) (by (try dsimp only); omega) ?_
                refine g_subT (X2 := [(gb, .inr (6, [.ref hb, .ref b, .int (nI dw), .ref gn, .ref gv, .int (nI sd), .ref gk, .ref gr])), (gn, .inl (cQ, 12, .inr (.inr (.inr (.inr (fun i => some (na i))))))), (r_19, .inl (cI, (ks_st P ca + 1), .inl h_19))]) [0, 1, 4] (by decide) rfl ?_
                exact g_aret_x B hr (Or.inr ⟨_, rfl⟩) hlocks (r_19, h_19) (rfl) (⟨fun j hj => by rw [← z1] at hj; rw [hu19.1 j hj]; exact lt_s (p := fun j => upd fm k (nI (ks_ek P ca k)) j = nI (ks_ek P ca j)) (fun a ha => by rw [pk_un (by omega)]; exact i3 a ha) pk_us j hj, by rw [← z1, hu19.2, ← z2, fw_rI hg]⟩) rfl dX6_run_174
            · refine g_iconst (v := (1 : Int32)) B dX6_run_110 (by decide) ?_
              refine g_goto (tgt := 115) B dX6_run_111 (by decide) ?_
              refine g_istore (lv' := [(0, .ref gb), (1, .int (nI ca)), (2, .ref q1), (3, .ref r_2), (4, .int (nI (ks_nd P ca k))), (5, .int (nI k)), (6, .ref (na (ks_nd P ca k))), (7, .int (nI ((ks_dg ca) (P.1 (ks_nd P ca k))))), (8, .int (1 : Int32))]) B dX6_run_115 (by decide) [1, 2, 3, 4, 5, 6, 7, 8, 0] rfl ?_
              have hso : ks_so P (ks_nd P ca k) ca = true := by unfold ks_so; split <;> (try split) <;> simp <;> omega
              refine g_aload_n B dX6_run_117 2 rfl ?_
              refine g_iload B dX6_run_118 5 rfl ?_
              refine g_iload B dX6_run_120 8 rfl ?_
              refine g_if_eq (tgt := 132) B dX6_run_122 (by decide) (fun c20 => absurd c20 (by decide)) (fun _ => ?_)
              refine g_iconst (v := (2 : Int32)) B dX6_run_125 (by decide) ?_
              refine g_iload B dX6_run_126 4 rfl ?_
              refine g_imul (v := nI (2 * (ks_nd P ca k))) B dX6_run_128 (pk_mul 2 (ks_nd P ca k)) ?_
              refine g_goto (tgt := 138) B dX6_run_129 (by decide) ?_
              refine g_eqi (y := nI (ks_ek P ca k)) (fw_ek1 hso) ?_
              have hg : ks_go P (ks_nd P ca k) = true := ks_go_of i4 c7
              have hek : ks_ek P ca k < 24 := (ks_eg_lt i4).1
              refine g_iast B hK 2 0 rfl rfl k rfl (by omega) (by omega) (f2 := (upd fm k (nI (ks_ek P ca k)))) (rfl) (w2 := ([(gb, .inr (6, [.ref hb, .ref b, .int (nI dw), .ref gn, .ref gv, .int (nI sd), .ref gk, .ref gr])), (gn, .inl (cQ, 12, .inr (.inr (.inr (.inr (fun i => some (na i))))))), (q1, .inl (cI, 31, .inl (upd fm k (nI (ks_ek P ca k))))), (r_2, .inl (cI, 4, .inl (fun i => nI ((ks_dg ca) i))))] ++ (tl_T cI 12 na (ks_nr P) 4 wa (ks_wr W) rc ra (ks_rr Q) n ka (ks_kn t S mu)))) rfl (fun _ h => h) dX6_run_138 ?_
              refine g_iload B dX6_run_139 8 rfl ?_
              refine g_if_eq (tgt := 151) B dX6_run_141 (by decide) (fun c21 => absurd c21 (by decide)) (fun _ => ?_)
              refine g_aload B dX6_run_144 6 rfl ?_
              refine g_iconst (v := (3 : Int32)) B dX6_run_146 (by decide) ?_
              refine g_iald B hK _ 0 (tl_g1 (i := (ks_nd P ca k)) (by omega)) rfl 3 rfl (by omega) (by omega) (v := ks_tI (P.2.2.2.1 (2 * (ks_nd P ca k)))) (rfl) dX6_run_147 ?_
              refine g_goto (tgt := 155) B dX6_run_148 (by decide) ?_
              refine g_eqi (y := ks_tI (P.2.2.2.1 (ks_ek P ca k))) (by rw [show ks_ek P ca k = 2 * ks_nd P ca k from by unfold ks_ek ks_eg; rw [hso]; rfl]) ?_
              refine g_istore (lv' := [(0, .ref gb), (1, .int (nI ca)), (2, .ref q1), (3, .ref r_2), (4, .int (ks_tI (P.2.2.2.1 (ks_ek P ca k)))), (5, .int (nI k)), (6, .ref (na (ks_nd P ca k))), (7, .int (nI ((ks_dg ca) (P.1 (ks_nd P ca k))))), (8, .int (1 : Int32))]) B dX6_run_155 (by decide) [1, 2, 3, 4, 0, 5, 6, 7, 8] rfl ?_
              refine g_iload B dX6_run_157 4 rfl ?_
              refine g_tif_ge (tgt := 175) B dX6_run_159 (by decide) (fun c22 => ?_) (fun c22 => ?_)
              · have e1 := (ks_step hg).1
                have hn1 : ks_nd P ca (k + 1) < 12 := by rw [e1]; exact c22
                refine g_eqlv (lv2 := [(0, .ref gb), (1, .int (nI ca)), (2, .ref q1), (3, .ref r_2), (4, .int (nI (ks_nd P ca (k + 1)))), (5, .int (nI k)), (6, .ref (na (ks_nd P ca k))), (7, .int (nI ((ks_dg ca) (P.1 (ks_nd P ca k))))), (8, .int (1 : Int32))]) (by rw [e1, ks_tI_lt c22]) ?_
                refine g_iinc (lv' := [(0, .ref gb), (1, .int (nI ca)), (2, .ref q1), (3, .ref r_2), (4, .int (nI (ks_nd P ca (k + 1)))), (5, .int (nI (k + 1))), (6, .ref (na (ks_nd P ca k))), (7, .int (nI ((ks_dg ca) (P.1 (ks_nd P ca k))))), (8, .int (1 : Int32))]) B dX6_run_175 5 rfl (nI_1 k) (by decide) [1, 2, 3, 4, 5, 0, 6, 7, 8] rfl ?_
                refine g_goto (tgt := 16) B dX6_run_178 (by decide) ?_
                refine g_widen (k := 2) (n := 35) (by (try dsimp only); omega) (by (try dsimp only); omega) ?_
                exact g_pick [0, 1, 2, 3, 4, 5] rfl (ih16 (k + 1, (upd fm k (nI (ks_ek P ca k)))) (⟨by omega, lt_s i2 hg, lt_s (p := fun j => upd fm k (nI (ks_ek P ca k)) j = nI (ks_ek P ca j)) (fun a ha => by rw [pk_un (by omega)]; exact i3 a ha) pk_us, hn1⟩) (by (try dsimp only); omega))
              · refine g_aload_n B dX6_run_162 2 rfl ?_
                refine g_iload B dX6_run_163 5 rfl ?_
                refine g_iconst (v := (1 : Int32)) B dX6_run_165 (by decide) ?_
                refine g_iadd (v := nI (k + 1)) B dX6_run_166 (nI_add k 1) ?_
                refine g_aload_n B dX6_run_167 2 rfl ?_
                refine g_iload B dX6_run_168 5 rfl ?_
                refine g_iald B hK 2 0 rfl rfl k rfl (by omega) (by omega) (v := nI (ks_ek P ca k)) rfl dX6_run_170 ?_
                refine g_callU (w2 := (fun (z9 : Nat × (Nat → Int32)) => [(gb, .inr (6, [.ref hb, .ref b, .int (nI dw), .ref gn, .ref gv, .int (nI sd), .ref gk, .ref gr])), (gn, .inl (cQ, 12, .inr (.inr (.inr (.inr (fun i => some (na i))))))), (q1, .inl (cI, 31, .inl (upd fm k (nI (ks_ek P ca k))))), (r_2, .inl (cI, 4, .inl (fun i => nI ((ks_dg ca) i)))), (z9.1, .inl (cI, ((k + 1) + 1), .inl z9.2))])) (g_runS B (b_told l (D := D) (cI := cI) (cL := cL) (cZ := cZ) (cQ := cQ) q1 (k + 1) (ks_ek P ca k) (upd fm k (nI (ks_ek P ca k))) (by first | with_reducible assumption | omega | assumption)) (gPw.pre (av := [.ref q1, .int (nI (k + 1)), .int (nI (ks_ek P ca k))]) (wc := [(q1, .inl (cI, 31, .inl (upd fm k (nI (ks_ek P ca k)))))]) hK hN [2] rfl (by decide)) gX6_run_X6_told rfl kd_X6_told ⟨by decide, by decide⟩ (st := []) rfl (Nat.le_of_ble_eq_true rfl) dX6_run_171 ⟨by (try dsimp only); omega, by (try dsimp only); omega⟩) hA (fun _ h => h) [2] [0, 1, 3] (wr := [(gb, .inr (6, [.ref hb, .ref b, .int (nI dw), .ref gn, .ref gv, .int (nI sd), .ref gk, .ref gr])), (gn, .inl (cQ, 12, .inr (.inr (.inr (.inr (fun i => some (na i))))))), (r_2, .inl (cI, 4, .inl (fun i => nI ((ks_dg ca) i))))]) rfl rfl (by decide) (by decide) [0, 1, 3, 2, 4] (by decide) (fun _ => rfl) (fun u hu => ?_)
                obtain ⟨r_23, h_23⟩ := u
                try dsimp only at hu ⊢
                have hu23 := hu
                have hnx : ¬ ks_nd P ca (k + 1) < 12 := by rw [(ks_step hg).1]; exact c22
                obtain ⟨z1, z2, z3⟩ := fw_A (by omega) (lt_s i2 hg) hnx
                refine g_eqw (w2 := ([(gb, .inr (6, [.ref hb, .ref b, .int (nI dw), .ref gn, .ref gv, .int (nI sd), .ref gk, .ref gr])), (gn, .inl (cQ, 12, .inr (.inr (.inr (.inr (fun i => some (na i))))))), (q1, .inl (cI, 31, .inl (upd fm k (nI (ks_ek P ca k))))), (r_2, .inl (cI, 4, .inl (fun i => nI ((ks_dg ca) i)))), (r_23, .inl (cI, (ks_st P ca + 1), .inl h_23))] ++ (tl_T cI 12 na (ks_nr P) 4 wa (ks_wr W) rc ra (ks_rr Q) n ka (ks_kn t S mu)))) (by rw [show ks_st P ca = k + 1 by omega]) ?_
                refine g_widen (k := 3) (n := 66) (by (try dsimp only); omega) (by (try dsimp only); omega) ?_
                refine g_subT (X2 := [(gb, .inr (6, [.ref hb, .ref b, .int (nI dw), .ref gn, .ref gv, .int (nI sd), .ref gk, .ref gr])), (gn, .inl (cQ, 12, .inr (.inr (.inr (.inr (fun i => some (na i))))))), (r_23, .inl (cI, (ks_st P ca + 1), .inl h_23))]) [0, 1, 4] (by decide) rfl ?_
                exact g_aret_x B hr (Or.inr ⟨_, rfl⟩) hlocks (r_23, h_23) (rfl) (⟨fun j hj => by rw [← z1] at hj; rw [hu23.1 j hj]; exact lt_s (p := fun j => upd fm k (nI (ks_ek P ca k)) j = nI (ks_ek P ca j)) (fun a ha => by rw [pk_un (by omega)]; exact i3 a ha) pk_us j hj, by rw [← z1, hu23.2, ← z2, fw_rI hg]⟩) rfl dX6_run_174
        · refine g_iload B dX6_run_84 7 rfl ?_
          refine g_aload B dX6_run_86 6 rfl ?_
          refine g_iconst (v := (2 : Int32)) B dX6_run_88 (by decide) ?_
          refine g_iald B hK _ 0 (tl_g1 (i := (ks_nd P ca k)) (by omega)) rfl 2 rfl (by omega) (by omega) (v := nI (P.2.2.1 (ks_nd P ca k))) (rfl) dX6_run_89 ?_
          refine g_ncmp_eq (tgt := 110) B ((ks_dg ca) (P.1 (ks_nd P ca k))) (P.2.2.1 (ks_nd P ca k)) rfl rfl (by omega) (by omega) dX6_run_90 (by decide) (fun c24 => ?_) (fun c24 => ?_)
          · refine g_iconst (v := (1 : Int32)) B dX6_run_110 (by decide) ?_
            refine g_goto (tgt := 115) B dX6_run_111 (by decide) ?_
            refine g_istore (lv' := [(0, .ref gb), (1, .int (nI ca)), (2, .ref q1), (3, .ref r_2), (4, .int (nI (ks_nd P ca k))), (5, .int (nI k)), (6, .ref (na (ks_nd P ca k))), (7, .int (nI ((ks_dg ca) (P.1 (ks_nd P ca k))))), (8, .int (1 : Int32))]) B dX6_run_115 (by decide) [1, 2, 3, 4, 5, 6, 7, 8, 0] rfl ?_
            have hso : ks_so P (ks_nd P ca k) ca = true := by unfold ks_so; split <;> (try split) <;> simp <;> omega
            refine g_aload_n B dX6_run_117 2 rfl ?_
            refine g_iload B dX6_run_118 5 rfl ?_
            refine g_iload B dX6_run_120 8 rfl ?_
            refine g_if_eq (tgt := 132) B dX6_run_122 (by decide) (fun c25 => absurd c25 (by decide)) (fun _ => ?_)
            refine g_iconst (v := (2 : Int32)) B dX6_run_125 (by decide) ?_
            refine g_iload B dX6_run_126 4 rfl ?_
            refine g_imul (v := nI (2 * (ks_nd P ca k))) B dX6_run_128 (pk_mul 2 (ks_nd P ca k)) ?_
            refine g_goto (tgt := 138) B dX6_run_129 (by decide) ?_
            refine g_eqi (y := nI (ks_ek P ca k)) (fw_ek1 hso) ?_
            have hg : ks_go P (ks_nd P ca k) = true := ks_go_of i4 c7
            have hek : ks_ek P ca k < 24 := (ks_eg_lt i4).1
            refine g_iast B hK 2 0 rfl rfl k rfl (by omega) (by omega) (f2 := (upd fm k (nI (ks_ek P ca k)))) (rfl) (w2 := ([(gb, .inr (6, [.ref hb, .ref b, .int (nI dw), .ref gn, .ref gv, .int (nI sd), .ref gk, .ref gr])), (gn, .inl (cQ, 12, .inr (.inr (.inr (.inr (fun i => some (na i))))))), (q1, .inl (cI, 31, .inl (upd fm k (nI (ks_ek P ca k))))), (r_2, .inl (cI, 4, .inl (fun i => nI ((ks_dg ca) i))))] ++ (tl_T cI 12 na (ks_nr P) 4 wa (ks_wr W) rc ra (ks_rr Q) n ka (ks_kn t S mu)))) rfl (fun _ h => h) dX6_run_138 ?_
            refine g_iload B dX6_run_139 8 rfl ?_
            refine g_if_eq (tgt := 151) B dX6_run_141 (by decide) (fun c26 => absurd c26 (by decide)) (fun _ => ?_)
            refine g_aload B dX6_run_144 6 rfl ?_
            refine g_iconst (v := (3 : Int32)) B dX6_run_146 (by decide) ?_
            refine g_iald B hK _ 0 (tl_g1 (i := (ks_nd P ca k)) (by omega)) rfl 3 rfl (by omega) (by omega) (v := ks_tI (P.2.2.2.1 (2 * (ks_nd P ca k)))) (rfl) dX6_run_147 ?_
            refine g_goto (tgt := 155) B dX6_run_148 (by decide) ?_
            refine g_eqi (y := ks_tI (P.2.2.2.1 (ks_ek P ca k))) (by rw [show ks_ek P ca k = 2 * ks_nd P ca k from by unfold ks_ek ks_eg; rw [hso]; rfl]) ?_
            refine g_istore (lv' := [(0, .ref gb), (1, .int (nI ca)), (2, .ref q1), (3, .ref r_2), (4, .int (ks_tI (P.2.2.2.1 (ks_ek P ca k)))), (5, .int (nI k)), (6, .ref (na (ks_nd P ca k))), (7, .int (nI ((ks_dg ca) (P.1 (ks_nd P ca k))))), (8, .int (1 : Int32))]) B dX6_run_155 (by decide) [1, 2, 3, 4, 0, 5, 6, 7, 8] rfl ?_
            refine g_iload B dX6_run_157 4 rfl ?_
            refine g_tif_ge (tgt := 175) B dX6_run_159 (by decide) (fun c27 => ?_) (fun c27 => ?_)
            · have e1 := (ks_step hg).1
              have hn1 : ks_nd P ca (k + 1) < 12 := by rw [e1]; exact c27
              refine g_eqlv (lv2 := [(0, .ref gb), (1, .int (nI ca)), (2, .ref q1), (3, .ref r_2), (4, .int (nI (ks_nd P ca (k + 1)))), (5, .int (nI k)), (6, .ref (na (ks_nd P ca k))), (7, .int (nI ((ks_dg ca) (P.1 (ks_nd P ca k))))), (8, .int (1 : Int32))]) (by rw [e1, ks_tI_lt c27]) ?_
              refine g_iinc (lv' := [(0, .ref gb), (1, .int (nI ca)), (2, .ref q1), (3, .ref r_2), (4, .int (nI (ks_nd P ca (k + 1)))), (5, .int (nI (k + 1))), (6, .ref (na (ks_nd P ca k))), (7, .int (nI ((ks_dg ca) (P.1 (ks_nd P ca k))))), (8, .int (1 : Int32))]) B dX6_run_175 5 rfl (nI_1 k) (by decide) [1, 2, 3, 4, 5, 0, 6, 7, 8] rfl ?_
              refine g_goto (tgt := 16) B dX6_run_178 (by decide) ?_
              refine g_widen (k := 2) (n := 35) (by (try dsimp only); omega) (by (try dsimp only); omega) ?_
              exact g_pick [0, 1, 2, 3, 4, 5] rfl (ih16 (k + 1, (upd fm k (nI (ks_ek P ca k)))) (⟨by omega, lt_s i2 hg, lt_s (p := fun j => upd fm k (nI (ks_ek P ca k)) j = nI (ks_ek P ca j)) (fun a ha => by rw [pk_un (by omega)]; exact i3 a ha) pk_us, hn1⟩) (by (try dsimp only); omega))
            · refine g_aload_n B dX6_run_162 2 rfl ?_
              refine g_iload B dX6_run_163 5 rfl ?_
              refine g_iconst (v := (1 : Int32)) B dX6_run_165 (by decide) ?_
              refine g_iadd (v := nI (k + 1)) B dX6_run_166 (nI_add k 1) ?_
              refine g_aload_n B dX6_run_167 2 rfl ?_
              refine g_iload B dX6_run_168 5 rfl ?_
              refine g_iald B hK 2 0 rfl rfl k rfl (by omega) (by omega) (v := nI (ks_ek P ca k)) rfl dX6_run_170 ?_
              refine g_callU (w2 := (fun (z9 : Nat × (Nat → Int32)) => [(gb, .inr (6, [.ref hb, .ref b, .int (nI dw), .ref gn, .ref gv, .int (nI sd), .ref gk, .ref gr])), (gn, .inl (cQ, 12, .inr (.inr (.inr (.inr (fun i => some (na i))))))), (q1, .inl (cI, 31, .inl (upd fm k (nI (ks_ek P ca k))))), (r_2, .inl (cI, 4, .inl (fun i => nI ((ks_dg ca) i)))), (z9.1, .inl (cI, ((k + 1) + 1), .inl z9.2))])) (g_runS B (b_told l (D := D) (cI := cI) (cL := cL) (cZ := cZ) (cQ := cQ) q1 (k + 1) (ks_ek P ca k) (upd fm k (nI (ks_ek P ca k))) (by first | with_reducible assumption | omega | assumption)) (gPw.pre (av := [.ref q1, .int (nI (k + 1)), .int (nI (ks_ek P ca k))]) (wc := [(q1, .inl (cI, 31, .inl (upd fm k (nI (ks_ek P ca k)))))]) hK hN [2] rfl (by decide)) gX6_run_X6_told rfl kd_X6_told ⟨by decide, by decide⟩ (st := []) rfl (Nat.le_of_ble_eq_true rfl) dX6_run_171 ⟨by (try dsimp only); omega, by (try dsimp only); omega⟩) hA (fun _ h => h) [2] [0, 1, 3] (wr := [(gb, .inr (6, [.ref hb, .ref b, .int (nI dw), .ref gn, .ref gv, .int (nI sd), .ref gk, .ref gr])), (gn, .inl (cQ, 12, .inr (.inr (.inr (.inr (fun i => some (na i))))))), (r_2, .inl (cI, 4, .inl (fun i => nI ((ks_dg ca) i))))]) rfl rfl (by decide) (by decide) [0, 1, 3, 2, 4] (by decide) (fun _ => rfl) (fun u hu => ?_)
              obtain ⟨r_28, h_28⟩ := u
              try dsimp only at hu ⊢
              have hu28 := hu
              have hnx : ¬ ks_nd P ca (k + 1) < 12 := by rw [(ks_step hg).1]; exact c27
              obtain ⟨z1, z2, z3⟩ := fw_A (by omega) (lt_s i2 hg) hnx
              refine g_eqw (w2 := ([(gb, .inr (6, [.ref hb, .ref b, .int (nI dw), .ref gn, .ref gv, .int (nI sd), .ref gk, .ref gr])), (gn, .inl (cQ, 12, .inr (.inr (.inr (.inr (fun i => some (na i))))))), (q1, .inl (cI, 31, .inl (upd fm k (nI (ks_ek P ca k))))), (r_2, .inl (cI, 4, .inl (fun i => nI ((ks_dg ca) i)))), (r_28, .inl (cI, (ks_st P ca + 1), .inl h_28))] ++ (tl_T cI 12 na (ks_nr P) 4 wa (ks_wr W) rc ra (ks_rr Q) n ka (ks_kn t S mu)))) (by rw [show ks_st P ca = k + 1 by omega]) ?_
              refine g_widen (k := 3) (n := 66) (by (try dsimp only); omega) (by (try dsimp only); omega) ?_
              refine g_subT (X2 := [(gb, .inr (6, [.ref hb, .ref b, .int (nI dw), .ref gn, .ref gv, .int (nI sd), .ref gk, .ref gr])), (gn, .inl (cQ, 12, .inr (.inr (.inr (.inr (fun i => some (na i))))))), (r_28, .inl (cI, (ks_st P ca + 1), .inl h_28))]) [0, 1, 4] (by decide) rfl ?_
              exact g_aret_x B hr (Or.inr ⟨_, rfl⟩) hlocks (r_28, h_28) (rfl) (⟨fun j hj => by rw [← z1] at hj; rw [hu28.1 j hj]; exact lt_s (p := fun j => upd fm k (nI (ks_ek P ca k)) j = nI (ks_ek P ca j)) (fun a ha => by rw [pk_un (by omega)]; exact i3 a ha) pk_us j hj, by rw [← z1, hu28.2, ← z2, fw_rI hg]⟩) rfl dX6_run_174
          · refine g_aload B dX6_run_93 6 rfl ?_
            refine g_iconst (v := (1 : Int32)) B dX6_run_95 (by decide) ?_
            refine g_iald B hK _ 0 (tl_g1 (i := (ks_nd P ca k)) (by omega)) rfl 1 rfl (by omega) (by omega) (v := nI (P.2.1 (ks_nd P ca k))) (rfl) dX6_run_96 ?_
            refine g_iconst (v := (2 : Int32)) B dX6_run_97 (by decide) ?_
            refine g_ncmp_ne (tgt := 114) B (P.2.1 (ks_nd P ca k)) 2 rfl rfl (by omega) (by omega) dX6_run_98 (by decide) (fun c29 => ?_) (fun c29 => ?_)
            · refine g_iconst (v := (0 : Int32)) B dX6_run_114 (by decide) ?_
              refine g_istore (lv' := [(0, .ref gb), (1, .int (nI ca)), (2, .ref q1), (3, .ref r_2), (4, .int (nI (ks_nd P ca k))), (5, .int (nI k)), (6, .ref (na (ks_nd P ca k))), (7, .int (nI ((ks_dg ca) (P.1 (ks_nd P ca k))))), (8, .int (0 : Int32))]) B dX6_run_115 (by decide) [1, 2, 3, 4, 5, 6, 7, 8, 0] rfl ?_
              have hso : ks_so P (ks_nd P ca k) ca = false := by unfold ks_so; split <;> (try split) <;> simp <;> omega
              refine g_aload_n B dX6_run_117 2 rfl ?_
              refine g_iload B dX6_run_118 5 rfl ?_
              refine g_iload B dX6_run_120 8 rfl ?_
              refine g_if_eq (tgt := 132) B dX6_run_122 (by decide) (fun _ => ?_) (fun c30 => absurd (by decide) c30)
              refine g_iconst (v := (2 : Int32)) B dX6_run_132 (by decide) ?_
              refine g_iload B dX6_run_133 4 rfl ?_
              refine g_imul (v := nI (2 * (ks_nd P ca k))) B dX6_run_135 (pk_mul 2 (ks_nd P ca k)) ?_
              refine g_iconst (v := (1 : Int32)) B dX6_run_136 (by decide) ?_
              refine g_iadd (v := nI ((2 * (ks_nd P ca k)) + 1)) B dX6_run_137 (nI_add (2 * (ks_nd P ca k)) 1) ?_
              refine g_eqi (y := nI (ks_ek P ca k)) (fw_ek0 hso) ?_
              have hg : ks_go P (ks_nd P ca k) = true := ks_go_of i4 c7
              have hek : ks_ek P ca k < 24 := (ks_eg_lt i4).1
              refine g_iast B hK 2 0 rfl rfl k rfl (by omega) (by omega) (f2 := (upd fm k (nI (ks_ek P ca k)))) (rfl) (w2 := ([(gb, .inr (6, [.ref hb, .ref b, .int (nI dw), .ref gn, .ref gv, .int (nI sd), .ref gk, .ref gr])), (gn, .inl (cQ, 12, .inr (.inr (.inr (.inr (fun i => some (na i))))))), (q1, .inl (cI, 31, .inl (upd fm k (nI (ks_ek P ca k))))), (r_2, .inl (cI, 4, .inl (fun i => nI ((ks_dg ca) i))))] ++ (tl_T cI 12 na (ks_nr P) 4 wa (ks_wr W) rc ra (ks_rr Q) n ka (ks_kn t S mu)))) rfl (fun _ h => h) dX6_run_138 ?_
              refine g_iload B dX6_run_139 8 rfl ?_
              refine g_if_eq (tgt := 151) B dX6_run_141 (by decide) (fun _ => ?_) (fun c31 => absurd (by decide) c31)
              refine g_aload B dX6_run_151 6 rfl ?_
              refine g_iconst (v := (4 : Int32)) B dX6_run_153 (by decide) ?_
              refine g_iald B hK _ 0 (tl_g1 (i := (ks_nd P ca k)) (by omega)) rfl 4 rfl (by omega) (by omega) (v := ks_tI (P.2.2.2.1 (2 * (ks_nd P ca k) + 1))) (rfl) dX6_run_154 ?_
              refine g_eqi (y := ks_tI (P.2.2.2.1 (ks_ek P ca k))) (by rw [show ks_ek P ca k = 2 * ks_nd P ca k + 1 from by unfold ks_ek ks_eg; rw [hso]; rfl]) ?_
              refine g_istore (lv' := [(0, .ref gb), (1, .int (nI ca)), (2, .ref q1), (3, .ref r_2), (4, .int (ks_tI (P.2.2.2.1 (ks_ek P ca k)))), (5, .int (nI k)), (6, .ref (na (ks_nd P ca k))), (7, .int (nI ((ks_dg ca) (P.1 (ks_nd P ca k))))), (8, .int (0 : Int32))]) B dX6_run_155 (by decide) [1, 2, 3, 4, 0, 5, 6, 7, 8] rfl ?_
              refine g_iload B dX6_run_157 4 rfl ?_
              refine g_tif_ge (tgt := 175) B dX6_run_159 (by decide) (fun c32 => ?_) (fun c32 => ?_)
              · have e1 := (ks_step hg).1
                have hn1 : ks_nd P ca (k + 1) < 12 := by rw [e1]; exact c32
                refine g_eqlv (lv2 := [(0, .ref gb), (1, .int (nI ca)), (2, .ref q1), (3, .ref r_2), (4, .int (nI (ks_nd P ca (k + 1)))), (5, .int (nI k)), (6, .ref (na (ks_nd P ca k))), (7, .int (nI ((ks_dg ca) (P.1 (ks_nd P ca k))))), (8, .int (0 : Int32))]) (by rw [e1, ks_tI_lt c32]) ?_
                refine g_iinc (lv' := [(0, .ref gb), (1, .int (nI ca)), (2, .ref q1), (3, .ref r_2), (4, .int (nI (ks_nd P ca (k + 1)))), (5, .int (nI (k + 1))), (6, .ref (na (ks_nd P ca k))), (7, .int (nI ((ks_dg ca) (P.1 (ks_nd P ca k))))), (8, .int (0 : Int32))]) B dX6_run_175 5 rfl (nI_1 k) (by decide) [1, 2, 3, 4, 5, 0, 6, 7, 8] rfl ?_
                refine g_goto (tgt := 16) B dX6_run_178 (by decide) ?_
                refine g_widen (k := 2) (n := 35) (by (try dsimp only); omega) (by (try dsimp only); omega) ?_
                exact g_pick [0, 1, 2, 3, 4, 5] rfl (ih16 (k + 1, (upd fm k (nI (ks_ek P ca k)))) (⟨by omega, lt_s i2 hg, lt_s (p := fun j => upd fm k (nI (ks_ek P ca k)) j = nI (ks_ek P ca j)) (fun a ha => by rw [pk_un (by omega)]; exact i3 a ha) pk_us, hn1⟩) (by (try dsimp only); omega))
              · refine g_aload_n B dX6_run_162 2 rfl ?_
                refine g_iload B dX6_run_163 5 rfl ?_
                refine g_iconst (v := (1 : Int32)) B dX6_run_165 (by decide) ?_
                refine g_iadd (v := nI (k + 1)) B dX6_run_166 (nI_add k 1) ?_
                refine g_aload_n B dX6_run_167 2 rfl ?_
                refine g_iload B dX6_run_168 5 rfl ?_
                refine g_iald B hK 2 0 rfl rfl k rfl (by omega) (by omega) (v := nI (ks_ek P ca k)) rfl dX6_run_170 ?_
                refine g_callU (w2 := (fun (z9 : Nat × (Nat → Int32)) => [(gb, .inr (6, [.ref hb, .ref b, .int (nI dw), .ref gn, .ref gv, .int (nI sd), .ref gk, .ref gr])), (gn, .inl (cQ, 12, .inr (.inr (.inr (.inr (fun i => some (na i))))))), (q1, .inl (cI, 31, .inl (upd fm k (nI (ks_ek P ca k))))), (r_2, .inl (cI, 4, .inl (fun i => nI ((ks_dg ca) i)))), (z9.1, .inl (cI, ((k + 1) + 1), .inl z9.2))])) (g_runS B (b_told l (D := D) (cI := cI) (cL := cL) (cZ := cZ) (cQ := cQ) q1 (k + 1) (ks_ek P ca k) (upd fm k (nI (ks_ek P ca k))) (by first | with_reducible assumption | omega | assumption)) (gPw.pre (av := [.ref q1, .int (nI (k + 1)), .int (nI (ks_ek P ca k))]) (wc := [(q1, .inl (cI, 31, .inl (upd fm k (nI (ks_ek P ca k)))))]) hK hN [2] rfl (by decide)) gX6_run_X6_told rfl kd_X6_told ⟨by decide, by decide⟩ (st := []) rfl (Nat.le_of_ble_eq_true rfl) dX6_run_171 ⟨by (try dsimp only); omega, by (try dsimp only); omega⟩) hA (fun _ h => h) [2] [0, 1, 3] (wr := [(gb, .inr (6, [.ref hb, .ref b, .int (nI dw), .ref gn, .ref gv, .int (nI sd), .ref gk, .ref gr])), (gn, .inl (cQ, 12, .inr (.inr (.inr (.inr (fun i => some (na i))))))), (r_2, .inl (cI, 4, .inl (fun i => nI ((ks_dg ca) i))))]) rfl rfl (by decide) (by decide) [0, 1, 3, 2, 4] (by decide) (fun _ => rfl) (fun u hu => ?_)
                obtain ⟨r_33, h_33⟩ := u
                try dsimp only at hu ⊢
                have hu33 := hu
                have hnx : ¬ ks_nd P ca (k + 1) < 12 := by rw [(ks_step hg).1]; exact c32
                obtain ⟨z1, z2, z3⟩ := fw_A (by omega) (lt_s i2 hg) hnx
                refine g_eqw (w2 := ([(gb, .inr (6, [.ref hb, .ref b, .int (nI dw), .ref gn, .ref gv, .int (nI sd), .ref gk, .ref gr])), (gn, .inl (cQ, 12, .inr (.inr (.inr (.inr (fun i => some (na i))))))), (q1, .inl (cI, 31, .inl (upd fm k (nI (ks_ek P ca k))))), (r_2, .inl (cI, 4, .inl (fun i => nI ((ks_dg ca) i)))), (r_33, .inl (cI, (ks_st P ca + 1), .inl h_33))] ++ (tl_T cI 12 na (ks_nr P) 4 wa (ks_wr W) rc ra (ks_rr Q) n ka (ks_kn t S mu)))) (by rw [show ks_st P ca = k + 1 by omega]) ?_
                refine g_widen (k := 3) (n := 66) (by (try dsimp only); omega) (by (try dsimp only); omega) ?_
                refine g_subT (X2 := [(gb, .inr (6, [.ref hb, .ref b, .int (nI dw), .ref gn, .ref gv, .int (nI sd), .ref gk, .ref gr])), (gn, .inl (cQ, 12, .inr (.inr (.inr (.inr (fun i => some (na i))))))), (r_33, .inl (cI, (ks_st P ca + 1), .inl h_33))]) [0, 1, 4] (by decide) rfl ?_
                exact g_aret_x B hr (Or.inr ⟨_, rfl⟩) hlocks (r_33, h_33) (rfl) (⟨fun j hj => by rw [← z1] at hj; rw [hu33.1 j hj]; exact lt_s (p := fun j => upd fm k (nI (ks_ek P ca k)) j = nI (ks_ek P ca j)) (fun a ha => by rw [pk_un (by omega)]; exact i3 a ha) pk_us j hj, by rw [← z1, hu33.2, ← z2, fw_rI hg]⟩) rfl dX6_run_174
            · refine g_iload B dX6_run_101 7 rfl ?_
              refine g_aload B dX6_run_103 6 rfl ?_
              refine g_iconst (v := (2 : Int32)) B dX6_run_105 (by decide) ?_
              refine g_iald B hK _ 0 (tl_g1 (i := (ks_nd P ca k)) (by omega)) rfl 2 rfl (by omega) (by omega) (v := nI (P.2.2.1 (ks_nd P ca k))) (rfl) dX6_run_106 ?_
              refine g_ncmp_le (tgt := 114) B ((ks_dg ca) (P.1 (ks_nd P ca k))) (P.2.2.1 (ks_nd P ca k)) rfl rfl (by omega) (by omega) dX6_run_107 (by decide) (fun c34 => ?_) (fun c34 => ?_)
              · refine g_iconst (v := (0 : Int32)) B dX6_run_114 (by decide) ?_
                refine g_istore (lv' := [(0, .ref gb), (1, .int (nI ca)), (2, .ref q1), (3, .ref r_2), (4, .int (nI (ks_nd P ca k))), (5, .int (nI k)), (6, .ref (na (ks_nd P ca k))), (7, .int (nI ((ks_dg ca) (P.1 (ks_nd P ca k))))), (8, .int (0 : Int32))]) B dX6_run_115 (by decide) [1, 2, 3, 4, 5, 6, 7, 8, 0] rfl ?_
                have hso : ks_so P (ks_nd P ca k) ca = false := by unfold ks_so; split <;> (try split) <;> simp <;> omega
                refine g_aload_n B dX6_run_117 2 rfl ?_
                refine g_iload B dX6_run_118 5 rfl ?_
                refine g_iload B dX6_run_120 8 rfl ?_
                refine g_if_eq (tgt := 132) B dX6_run_122 (by decide) (fun _ => ?_) (fun c35 => absurd (by decide) c35)
                refine g_iconst (v := (2 : Int32)) B dX6_run_132 (by decide) ?_
                refine g_iload B dX6_run_133 4 rfl ?_
                refine g_imul (v := nI (2 * (ks_nd P ca k))) B dX6_run_135 (pk_mul 2 (ks_nd P ca k)) ?_
                refine g_iconst (v := (1 : Int32)) B dX6_run_136 (by decide) ?_
                refine g_iadd (v := nI ((2 * (ks_nd P ca k)) + 1)) B dX6_run_137 (nI_add (2 * (ks_nd P ca k)) 1) ?_
                refine g_eqi (y := nI (ks_ek P ca k)) (fw_ek0 hso) ?_
                have hg : ks_go P (ks_nd P ca k) = true := ks_go_of i4 c7
                have hek : ks_ek P ca k < 24 := (ks_eg_lt i4).1
                refine g_iast B hK 2 0 rfl rfl k rfl (by omega) (by omega) (f2 := (upd fm k (nI (ks_ek P ca k)))) (rfl) (w2 := ([(gb, .inr (6, [.ref hb, .ref b, .int (nI dw), .ref gn, .ref gv, .int (nI sd), .ref gk, .ref gr])), (gn, .inl (cQ, 12, .inr (.inr (.inr (.inr (fun i => some (na i))))))), (q1, .inl (cI, 31, .inl (upd fm k (nI (ks_ek P ca k))))), (r_2, .inl (cI, 4, .inl (fun i => nI ((ks_dg ca) i))))] ++ (tl_T cI 12 na (ks_nr P) 4 wa (ks_wr W) rc ra (ks_rr Q) n ka (ks_kn t S mu)))) rfl (fun _ h => h) dX6_run_138 ?_
                refine g_iload B dX6_run_139 8 rfl ?_
                refine g_if_eq (tgt := 151) B dX6_run_141 (by decide) (fun _ => ?_) (fun c36 => absurd (by decide) c36)
                refine g_aload B dX6_run_151 6 rfl ?_
                refine g_iconst (v := (4 : Int32)) B dX6_run_153 (by decide) ?_
                refine g_iald B hK _ 0 (tl_g1 (i := (ks_nd P ca k)) (by omega)) rfl 4 rfl (by omega) (by omega) (v := ks_tI (P.2.2.2.1 (2 * (ks_nd P ca k) + 1))) (rfl) dX6_run_154 ?_
                refine g_eqi (y := ks_tI (P.2.2.2.1 (ks_ek P ca k))) (by rw [show ks_ek P ca k = 2 * ks_nd P ca k + 1 from by unfold ks_ek ks_eg; rw [hso]; rfl]) ?_
                refine g_istore (lv' := [(0, .ref gb), (1, .int (nI ca)), (2, .ref q1), (3, .ref r_2), (4, .int (ks_tI (P.2.2.2.1 (ks_ek P ca k)))), (5, .int (nI k)), (6, .ref (na (ks_nd P ca k))), (7, .int (nI ((ks_dg ca) (P.1 (ks_nd P ca k))))), (8, .int (0 : Int32))]) B dX6_run_155 (by decide) [1, 2, 3, 4, 0, 5, 6, 7, 8] rfl ?_
                refine g_iload B dX6_run_157 4 rfl ?_
                refine g_tif_ge (tgt := 175) B dX6_run_159 (by decide) (fun c37 => ?_) (fun c37 => ?_)
                · have e1 := (ks_step hg).1
                  have hn1 : ks_nd P ca (k + 1) < 12 := by rw [e1]; exact c37
                  refine g_eqlv (lv2 := [(0, .ref gb), (1, .int (nI ca)), (2, .ref q1), (3, .ref r_2), (4, .int (nI (ks_nd P ca (k + 1)))), (5, .int (nI k)), (6, .ref (na (ks_nd P ca k))), (7, .int (nI ((ks_dg ca) (P.1 (ks_nd P ca k))))), (8, .int (0 : Int32))]) (by rw [e1, ks_tI_lt c37]) ?_
                  refine g_iinc (lv' := [(0, .ref gb), (1, .int (nI ca)), (2, .ref q1), (3, .ref r_2), (4, .int (nI (ks_nd P ca (k + 1)))), (5, .int (nI (k + 1))), (6, .ref (na (ks_nd P ca k))), (7, .int (nI ((ks_dg ca) (P.1 (ks_nd P ca k))))), (8, .int (0 : Int32))]) B dX6_run_175 5 rfl (nI_1 k) (by decide) [1, 2, 3, 4, 5, 0, 6, 7, 8] rfl ?_
                  refine g_goto (tgt := 16) B dX6_run_178 (by decide) ?_
                  refine g_widen (k := 2) (n := 35) (by (try dsimp only); omega) (by (try dsimp only); omega) ?_
                  exact g_pick [0, 1, 2, 3, 4, 5] rfl (ih16 (k + 1, (upd fm k (nI (ks_ek P ca k)))) (⟨by omega, lt_s i2 hg, lt_s (p := fun j => upd fm k (nI (ks_ek P ca k)) j = nI (ks_ek P ca j)) (fun a ha => by rw [pk_un (by omega)]; exact i3 a ha) pk_us, hn1⟩) (by (try dsimp only); omega))
                · refine g_aload_n B dX6_run_162 2 rfl ?_
                  refine g_iload B dX6_run_163 5 rfl ?_
                  refine g_iconst (v := (1 : Int32)) B dX6_run_165 (by decide) ?_
                  refine g_iadd (v := nI (k + 1)) B dX6_run_166 (nI_add k 1) ?_
                  refine g_aload_n B dX6_run_167 2 rfl ?_
                  refine g_iload B dX6_run_168 5 rfl ?_
                  refine g_iald B hK 2 0 rfl rfl k rfl (by omega) (by omega) (v := nI (ks_ek P ca k)) rfl dX6_run_170 ?_
                  refine g_callU (w2 := (fun (z9 : Nat × (Nat → Int32)) => [(gb, .inr (6, [.ref hb, .ref b, .int (nI dw), .ref gn, .ref gv, .int (nI sd), .ref gk, .ref gr])), (gn, .inl (cQ, 12, .inr (.inr (.inr (.inr (fun i => some (na i))))))), (q1, .inl (cI, 31, .inl (upd fm k (nI (ks_ek P ca k))))), (r_2, .inl (cI, 4, .inl (fun i => nI ((ks_dg ca) i)))), (z9.1, .inl (cI, ((k + 1) + 1), .inl z9.2))])) (g_runS B (b_told l (D := D) (cI := cI) (cL := cL) (cZ := cZ) (cQ := cQ) q1 (k + 1) (ks_ek P ca k) (upd fm k (nI (ks_ek P ca k))) (by first | with_reducible assumption | omega | assumption)) (gPw.pre (av := [.ref q1, .int (nI (k + 1)), .int (nI (ks_ek P ca k))]) (wc := [(q1, .inl (cI, 31, .inl (upd fm k (nI (ks_ek P ca k)))))]) hK hN [2] rfl (by decide)) gX6_run_X6_told rfl kd_X6_told ⟨by decide, by decide⟩ (st := []) rfl (Nat.le_of_ble_eq_true rfl) dX6_run_171 ⟨by (try dsimp only); omega, by (try dsimp only); omega⟩) hA (fun _ h => h) [2] [0, 1, 3] (wr := [(gb, .inr (6, [.ref hb, .ref b, .int (nI dw), .ref gn, .ref gv, .int (nI sd), .ref gk, .ref gr])), (gn, .inl (cQ, 12, .inr (.inr (.inr (.inr (fun i => some (na i))))))), (r_2, .inl (cI, 4, .inl (fun i => nI ((ks_dg ca) i))))]) rfl rfl (by decide) (by decide) [0, 1, 3, 2, 4] (by decide) (fun _ => rfl) (fun u hu => ?_)
                  obtain ⟨r_38, h_38⟩ := u
                  try dsimp only at hu ⊢
                  have hu38 := hu
                  have hnx : ¬ ks_nd P ca (k + 1) < 12 := by rw [(ks_step hg).1]; exact c37
                  obtain ⟨z1, z2, z3⟩ := fw_A (by omega) (lt_s i2 hg) hnx
                  refine g_eqw (w2 := ([(gb, .inr (6, [.ref hb, .ref b, .int (nI dw), .ref gn, .ref gv, .int (nI sd), .ref gk, .ref gr])), (gn, .inl (cQ, 12, .inr (.inr (.inr (.inr (fun i => some (na i))))))), (q1, .inl (cI, 31, .inl (upd fm k (nI (ks_ek P ca k))))), (r_2, .inl (cI, 4, .inl (fun i => nI ((ks_dg ca) i)))), (r_38, .inl (cI, (ks_st P ca + 1), .inl h_38))] ++ (tl_T cI 12 na (ks_nr P) 4 wa (ks_wr W) rc ra (ks_rr Q) n ka (ks_kn t S mu)))) (by rw [show ks_st P ca = k + 1 by omega]) ?_
                  refine g_widen (k := 3) (n := 66) (by (try dsimp only); omega) (by (try dsimp only); omega) ?_
                  refine g_subT (X2 := [(gb, .inr (6, [.ref hb, .ref b, .int (nI dw), .ref gn, .ref gv, .int (nI sd), .ref gk, .ref gr])), (gn, .inl (cQ, 12, .inr (.inr (.inr (.inr (fun i => some (na i))))))), (r_38, .inl (cI, (ks_st P ca + 1), .inl h_38))]) [0, 1, 4] (by decide) rfl ?_
                  exact g_aret_x B hr (Or.inr ⟨_, rfl⟩) hlocks (r_38, h_38) (rfl) (⟨fun j hj => by rw [← z1] at hj; rw [hu38.1 j hj]; exact lt_s (p := fun j => upd fm k (nI (ks_ek P ca k)) j = nI (ks_ek P ca j)) (fun a ha => by rw [pk_un (by omega)]; exact i3 a ha) pk_us j hj, by rw [← z1, hu38.2, ← z2, fw_rI hg]⟩) rfl dX6_run_174
              · refine g_iconst (v := (1 : Int32)) B dX6_run_110 (by decide) ?_
                refine g_goto (tgt := 115) B dX6_run_111 (by decide) ?_
                refine g_istore (lv' := [(0, .ref gb), (1, .int (nI ca)), (2, .ref q1), (3, .ref r_2), (4, .int (nI (ks_nd P ca k))), (5, .int (nI k)), (6, .ref (na (ks_nd P ca k))), (7, .int (nI ((ks_dg ca) (P.1 (ks_nd P ca k))))), (8, .int (1 : Int32))]) B dX6_run_115 (by decide) [1, 2, 3, 4, 5, 6, 7, 8, 0] rfl ?_
                have hso : ks_so P (ks_nd P ca k) ca = true := by unfold ks_so; split <;> (try split) <;> simp <;> omega
                refine g_aload_n B dX6_run_117 2 rfl ?_
                refine g_iload B dX6_run_118 5 rfl ?_
                refine g_iload B dX6_run_120 8 rfl ?_
                refine g_if_eq (tgt := 132) B dX6_run_122 (by decide) (fun c39 => absurd c39 (by decide)) (fun _ => ?_)
                refine g_iconst (v := (2 : Int32)) B dX6_run_125 (by decide) ?_
                refine g_iload B dX6_run_126 4 rfl ?_
                refine g_imul (v := nI (2 * (ks_nd P ca k))) B dX6_run_128 (pk_mul 2 (ks_nd P ca k)) ?_
                refine g_goto (tgt := 138) B dX6_run_129 (by decide) ?_
                refine g_eqi (y := nI (ks_ek P ca k)) (fw_ek1 hso) ?_
                have hg : ks_go P (ks_nd P ca k) = true := ks_go_of i4 c7
                have hek : ks_ek P ca k < 24 := (ks_eg_lt i4).1
                refine g_iast B hK 2 0 rfl rfl k rfl (by omega) (by omega) (f2 := (upd fm k (nI (ks_ek P ca k)))) (rfl) (w2 := ([(gb, .inr (6, [.ref hb, .ref b, .int (nI dw), .ref gn, .ref gv, .int (nI sd), .ref gk, .ref gr])), (gn, .inl (cQ, 12, .inr (.inr (.inr (.inr (fun i => some (na i))))))), (q1, .inl (cI, 31, .inl (upd fm k (nI (ks_ek P ca k))))), (r_2, .inl (cI, 4, .inl (fun i => nI ((ks_dg ca) i))))] ++ (tl_T cI 12 na (ks_nr P) 4 wa (ks_wr W) rc ra (ks_rr Q) n ka (ks_kn t S mu)))) rfl (fun _ h => h) dX6_run_138 ?_
                refine g_iload B dX6_run_139 8 rfl ?_
                refine g_if_eq (tgt := 151) B dX6_run_141 (by decide) (fun c40 => absurd c40 (by decide)) (fun _ => ?_)
                refine g_aload B dX6_run_144 6 rfl ?_
                refine g_iconst (v := (3 : Int32)) B dX6_run_146 (by decide) ?_
                refine g_iald B hK _ 0 (tl_g1 (i := (ks_nd P ca k)) (by omega)) rfl 3 rfl (by omega) (by omega) (v := ks_tI (P.2.2.2.1 (2 * (ks_nd P ca k)))) (rfl) dX6_run_147 ?_
                refine g_goto (tgt := 155) B dX6_run_148 (by decide) ?_
                refine g_eqi (y := ks_tI (P.2.2.2.1 (ks_ek P ca k))) (by rw [show ks_ek P ca k = 2 * ks_nd P ca k from by unfold ks_ek ks_eg; rw [hso]; rfl]) ?_
                refine g_istore (lv' := [(0, .ref gb), (1, .int (nI ca)), (2, .ref q1), (3, .ref r_2), (4, .int (ks_tI (P.2.2.2.1 (ks_ek P ca k)))), (5, .int (nI k)), (6, .ref (na (ks_nd P ca k))), (7, .int (nI ((ks_dg ca) (P.1 (ks_nd P ca k))))), (8, .int (1 : Int32))]) B dX6_run_155 (by decide) [1, 2, 3, 4, 0, 5, 6, 7, 8] rfl ?_
                refine g_iload B dX6_run_157 4 rfl ?_
                refine g_tif_ge (tgt := 175) B dX6_run_159 (by decide) (fun c41 => ?_) (fun c41 => ?_)
                · have e1 := (ks_step hg).1
                  have hn1 : ks_nd P ca (k + 1) < 12 := by rw [e1]; exact c41
                  refine g_eqlv (lv2 := [(0, .ref gb), (1, .int (nI ca)), (2, .ref q1), (3, .ref r_2), (4, .int (nI (ks_nd P ca (k + 1)))), (5, .int (nI k)), (6, .ref (na (ks_nd P ca k))), (7, .int (nI ((ks_dg ca) (P.1 (ks_nd P ca k))))), (8, .int (1 : Int32))]) (by rw [e1, ks_tI_lt c41]) ?_
                  refine g_iinc (lv' := [(0, .ref gb), (1, .int (nI ca)), (2, .ref q1), (3, .ref r_2), (4, .int (nI (ks_nd P ca (k + 1)))), (5, .int (nI (k + 1))), (6, .ref (na (ks_nd P ca k))), (7, .int (nI ((ks_dg ca) (P.1 (ks_nd P ca k))))), (8, .int (1 : Int32))]) B dX6_run_175 5 rfl (nI_1 k) (by decide) [1, 2, 3, 4, 5, 0, 6, 7, 8] rfl ?_
                  refine g_goto (tgt := 16) B dX6_run_178 (by decide) ?_
                  refine g_widen (k := 2) (n := 35) (by (try dsimp only); omega) (by (try dsimp only); omega) ?_
                  exact g_pick [0, 1, 2, 3, 4, 5] rfl (ih16 (k + 1, (upd fm k (nI (ks_ek P ca k)))) (⟨by omega, lt_s i2 hg, lt_s (p := fun j => upd fm k (nI (ks_ek P ca k)) j = nI (ks_ek P ca j)) (fun a ha => by rw [pk_un (by omega)]; exact i3 a ha) pk_us, hn1⟩) (by (try dsimp only); omega))
                · refine g_aload_n B dX6_run_162 2 rfl ?_
                  refine g_iload B dX6_run_163 5 rfl ?_
                  refine g_iconst (v := (1 : Int32)) B dX6_run_165 (by decide) ?_
                  refine g_iadd (v := nI (k + 1)) B dX6_run_166 (nI_add k 1) ?_
                  refine g_aload_n B dX6_run_167 2 rfl ?_
                  refine g_iload B dX6_run_168 5 rfl ?_
                  refine g_iald B hK 2 0 rfl rfl k rfl (by omega) (by omega) (v := nI (ks_ek P ca k)) rfl dX6_run_170 ?_
                  refine g_callU (w2 := (fun (z9 : Nat × (Nat → Int32)) => [(gb, .inr (6, [.ref hb, .ref b, .int (nI dw), .ref gn, .ref gv, .int (nI sd), .ref gk, .ref gr])), (gn, .inl (cQ, 12, .inr (.inr (.inr (.inr (fun i => some (na i))))))), (q1, .inl (cI, 31, .inl (upd fm k (nI (ks_ek P ca k))))), (r_2, .inl (cI, 4, .inl (fun i => nI ((ks_dg ca) i)))), (z9.1, .inl (cI, ((k + 1) + 1), .inl z9.2))])) (g_runS B (b_told l (D := D) (cI := cI) (cL := cL) (cZ := cZ) (cQ := cQ) q1 (k + 1) (ks_ek P ca k) (upd fm k (nI (ks_ek P ca k))) (by first | with_reducible assumption | omega | assumption)) (gPw.pre (av := [.ref q1, .int (nI (k + 1)), .int (nI (ks_ek P ca k))]) (wc := [(q1, .inl (cI, 31, .inl (upd fm k (nI (ks_ek P ca k)))))]) hK hN [2] rfl (by decide)) gX6_run_X6_told rfl kd_X6_told ⟨by decide, by decide⟩ (st := []) rfl (Nat.le_of_ble_eq_true rfl) dX6_run_171 ⟨by (try dsimp only); omega, by (try dsimp only); omega⟩) hA (fun _ h => h) [2] [0, 1, 3] (wr := [(gb, .inr (6, [.ref hb, .ref b, .int (nI dw), .ref gn, .ref gv, .int (nI sd), .ref gk, .ref gr])), (gn, .inl (cQ, 12, .inr (.inr (.inr (.inr (fun i => some (na i))))))), (r_2, .inl (cI, 4, .inl (fun i => nI ((ks_dg ca) i))))]) rfl rfl (by decide) (by decide) [0, 1, 3, 2, 4] (by decide) (fun _ => rfl) (fun u hu => ?_)
                  obtain ⟨r_42, h_42⟩ := u
                  try dsimp only at hu ⊢
                  have hu42 := hu
                  have hnx : ¬ ks_nd P ca (k + 1) < 12 := by rw [(ks_step hg).1]; exact c41
                  obtain ⟨z1, z2, z3⟩ := fw_A (by omega) (lt_s i2 hg) hnx
                  refine g_eqw (w2 := ([(gb, .inr (6, [.ref hb, .ref b, .int (nI dw), .ref gn, .ref gv, .int (nI sd), .ref gk, .ref gr])), (gn, .inl (cQ, 12, .inr (.inr (.inr (.inr (fun i => some (na i))))))), (q1, .inl (cI, 31, .inl (upd fm k (nI (ks_ek P ca k))))), (r_2, .inl (cI, 4, .inl (fun i => nI ((ks_dg ca) i)))), (r_42, .inl (cI, (ks_st P ca + 1), .inl h_42))] ++ (tl_T cI 12 na (ks_nr P) 4 wa (ks_wr W) rc ra (ks_rr Q) n ka (ks_kn t S mu)))) (by rw [show ks_st P ca = k + 1 by omega]) ?_
                  refine g_widen (k := 3) (n := 66) (by (try dsimp only); omega) (by (try dsimp only); omega) ?_
                  refine g_subT (X2 := [(gb, .inr (6, [.ref hb, .ref b, .int (nI dw), .ref gn, .ref gv, .int (nI sd), .ref gk, .ref gr])), (gn, .inl (cQ, 12, .inr (.inr (.inr (.inr (fun i => some (na i))))))), (r_42, .inl (cI, (ks_st P ca + 1), .inl h_42))]) [0, 1, 4] (by decide) rfl ?_
                  exact g_aret_x B hr (Or.inr ⟨_, rfl⟩) hlocks (r_42, h_42) (rfl) (⟨fun j hj => by rw [← z1] at hj; rw [hu42.1 j hj]; exact lt_s (p := fun j => upd fm k (nI (ks_ek P ca k)) j = nI (ks_ek P ca j)) (fun a ha => by rw [pk_un (by omega)]; exact i3 a ha) pk_us j hj, by rw [← z1, hu42.2, ← z2, fw_rI hg]⟩) rfl dX6_run_174
      · refine g_iload B dX6_run_67 7 rfl ?_
        refine g_aload B dX6_run_69 6 rfl ?_
        refine g_iconst (v := (2 : Int32)) B dX6_run_71 (by decide) ?_
        refine g_iald B hK _ 0 (tl_g1 (i := (ks_nd P ca k)) (by omega)) rfl 2 rfl (by omega) (by omega) (v := nI (P.2.2.1 (ks_nd P ca k))) (rfl) dX6_run_72 ?_
        refine g_ncmp_lt (tgt := 110) B ((ks_dg ca) (P.1 (ks_nd P ca k))) (P.2.2.1 (ks_nd P ca k)) rfl rfl (by omega) (by omega) dX6_run_73 (by decide) (fun c43 => ?_) (fun c43 => ?_)
        · refine g_iconst (v := (1 : Int32)) B dX6_run_110 (by decide) ?_
          refine g_goto (tgt := 115) B dX6_run_111 (by decide) ?_
          refine g_istore (lv' := [(0, .ref gb), (1, .int (nI ca)), (2, .ref q1), (3, .ref r_2), (4, .int (nI (ks_nd P ca k))), (5, .int (nI k)), (6, .ref (na (ks_nd P ca k))), (7, .int (nI ((ks_dg ca) (P.1 (ks_nd P ca k))))), (8, .int (1 : Int32))]) B dX6_run_115 (by decide) [1, 2, 3, 4, 5, 6, 7, 8, 0] rfl ?_
          have hso : ks_so P (ks_nd P ca k) ca = true := by unfold ks_so; split <;> (try split) <;> simp <;> omega
          refine g_aload_n B dX6_run_117 2 rfl ?_
          refine g_iload B dX6_run_118 5 rfl ?_
          refine g_iload B dX6_run_120 8 rfl ?_
          refine g_if_eq (tgt := 132) B dX6_run_122 (by decide) (fun c44 => absurd c44 (by decide)) (fun _ => ?_)
          refine g_iconst (v := (2 : Int32)) B dX6_run_125 (by decide) ?_
          refine g_iload B dX6_run_126 4 rfl ?_
          refine g_imul (v := nI (2 * (ks_nd P ca k))) B dX6_run_128 (pk_mul 2 (ks_nd P ca k)) ?_
          refine g_goto (tgt := 138) B dX6_run_129 (by decide) ?_
          refine g_eqi (y := nI (ks_ek P ca k)) (fw_ek1 hso) ?_
          have hg : ks_go P (ks_nd P ca k) = true := ks_go_of i4 c7
          have hek : ks_ek P ca k < 24 := (ks_eg_lt i4).1
          refine g_iast B hK 2 0 rfl rfl k rfl (by omega) (by omega) (f2 := (upd fm k (nI (ks_ek P ca k)))) (rfl) (w2 := ([(gb, .inr (6, [.ref hb, .ref b, .int (nI dw), .ref gn, .ref gv, .int (nI sd), .ref gk, .ref gr])), (gn, .inl (cQ, 12, .inr (.inr (.inr (.inr (fun i => some (na i))))))), (q1, .inl (cI, 31, .inl (upd fm k (nI (ks_ek P ca k))))), (r_2, .inl (cI, 4, .inl (fun i => nI ((ks_dg ca) i))))] ++ (tl_T cI 12 na (ks_nr P) 4 wa (ks_wr W) rc ra (ks_rr Q) n ka (ks_kn t S mu)))) rfl (fun _ h => h) dX6_run_138 ?_
          refine g_iload B dX6_run_139 8 rfl ?_
          refine g_if_eq (tgt := 151) B dX6_run_141 (by decide) (fun c45 => absurd c45 (by decide)) (fun _ => ?_)
          refine g_aload B dX6_run_144 6 rfl ?_
          refine g_iconst (v := (3 : Int32)) B dX6_run_146 (by decide) ?_
          refine g_iald B hK _ 0 (tl_g1 (i := (ks_nd P ca k)) (by omega)) rfl 3 rfl (by omega) (by omega) (v := ks_tI (P.2.2.2.1 (2 * (ks_nd P ca k)))) (rfl) dX6_run_147 ?_
          refine g_goto (tgt := 155) B dX6_run_148 (by decide) ?_
          refine g_eqi (y := ks_tI (P.2.2.2.1 (ks_ek P ca k))) (by rw [show ks_ek P ca k = 2 * ks_nd P ca k from by unfold ks_ek ks_eg; rw [hso]; rfl]) ?_
          refine g_istore (lv' := [(0, .ref gb), (1, .int (nI ca)), (2, .ref q1), (3, .ref r_2), (4, .int (ks_tI (P.2.2.2.1 (ks_ek P ca k)))), (5, .int (nI k)), (6, .ref (na (ks_nd P ca k))), (7, .int (nI ((ks_dg ca) (P.1 (ks_nd P ca k))))), (8, .int (1 : Int32))]) B dX6_run_155 (by decide) [1, 2, 3, 4, 0, 5, 6, 7, 8] rfl ?_
          refine g_iload B dX6_run_157 4 rfl ?_
          refine g_tif_ge (tgt := 175) B dX6_run_159 (by decide) (fun c46 => ?_) (fun c46 => ?_)
          · have e1 := (ks_step hg).1
            have hn1 : ks_nd P ca (k + 1) < 12 := by rw [e1]; exact c46
            refine g_eqlv (lv2 := [(0, .ref gb), (1, .int (nI ca)), (2, .ref q1), (3, .ref r_2), (4, .int (nI (ks_nd P ca (k + 1)))), (5, .int (nI k)), (6, .ref (na (ks_nd P ca k))), (7, .int (nI ((ks_dg ca) (P.1 (ks_nd P ca k))))), (8, .int (1 : Int32))]) (by rw [e1, ks_tI_lt c46]) ?_
            refine g_iinc (lv' := [(0, .ref gb), (1, .int (nI ca)), (2, .ref q1), (3, .ref r_2), (4, .int (nI (ks_nd P ca (k + 1)))), (5, .int (nI (k + 1))), (6, .ref (na (ks_nd P ca k))), (7, .int (nI ((ks_dg ca) (P.1 (ks_nd P ca k))))), (8, .int (1 : Int32))]) B dX6_run_175 5 rfl (nI_1 k) (by decide) [1, 2, 3, 4, 5, 0, 6, 7, 8] rfl ?_
            refine g_goto (tgt := 16) B dX6_run_178 (by decide) ?_
            refine g_widen (k := 2) (n := 35) (by (try dsimp only); omega) (by (try dsimp only); omega) ?_
            exact g_pick [0, 1, 2, 3, 4, 5] rfl (ih16 (k + 1, (upd fm k (nI (ks_ek P ca k)))) (⟨by omega, lt_s i2 hg, lt_s (p := fun j => upd fm k (nI (ks_ek P ca k)) j = nI (ks_ek P ca j)) (fun a ha => by rw [pk_un (by omega)]; exact i3 a ha) pk_us, hn1⟩) (by (try dsimp only); omega))
          · refine g_aload_n B dX6_run_162 2 rfl ?_
            refine g_iload B dX6_run_163 5 rfl ?_
            refine g_iconst (v := (1 : Int32)) B dX6_run_165 (by decide) ?_
            refine g_iadd (v := nI (k + 1)) B dX6_run_166 (nI_add k 1) ?_
            refine g_aload_n B dX6_run_167 2 rfl ?_
            refine g_iload B dX6_run_168 5 rfl ?_
            refine g_iald B hK 2 0 rfl rfl k rfl (by omega) (by omega) (v := nI (ks_ek P ca k)) rfl dX6_run_170 ?_
            refine g_callU (w2 := (fun (z9 : Nat × (Nat → Int32)) => [(gb, .inr (6, [.ref hb, .ref b, .int (nI dw), .ref gn, .ref gv, .int (nI sd), .ref gk, .ref gr])), (gn, .inl (cQ, 12, .inr (.inr (.inr (.inr (fun i => some (na i))))))), (q1, .inl (cI, 31, .inl (upd fm k (nI (ks_ek P ca k))))), (r_2, .inl (cI, 4, .inl (fun i => nI ((ks_dg ca) i)))), (z9.1, .inl (cI, ((k + 1) + 1), .inl z9.2))])) (g_runS B (b_told l (D := D) (cI := cI) (cL := cL) (cZ := cZ) (cQ := cQ) q1 (k + 1) (ks_ek P ca k) (upd fm k (nI (ks_ek P ca k))) (by first | with_reducible assumption | omega | assumption)) (gPw.pre (av := [.ref q1, .int (nI (k + 1)), .int (nI (ks_ek P ca k))]) (wc := [(q1, .inl (cI, 31, .inl (upd fm k (nI (ks_ek P ca k)))))]) hK hN [2] rfl (by decide)) gX6_run_X6_told rfl kd_X6_told ⟨by decide, by decide⟩ (st := []) rfl (Nat.le_of_ble_eq_true rfl) dX6_run_171 ⟨by (try dsimp only); omega, by (try dsimp only); omega⟩) hA (fun _ h => h) [2] [0, 1, 3] (wr := [(gb, .inr (6, [.ref hb, .ref b, .int (nI dw), .ref gn, .ref gv, .int (nI sd), .ref gk, .ref gr])), (gn, .inl (cQ, 12, .inr (.inr (.inr (.inr (fun i => some (na i))))))), (r_2, .inl (cI, 4, .inl (fun i => nI ((ks_dg ca) i))))]) rfl rfl (by decide) (by decide) [0, 1, 3, 2, 4] (by decide) (fun _ => rfl) (fun u hu => ?_)
            obtain ⟨r_47, h_47⟩ := u
            try dsimp only at hu ⊢
            have hu47 := hu
            have hnx : ¬ ks_nd P ca (k + 1) < 12 := by rw [(ks_step hg).1]; exact c46
            obtain ⟨z1, z2, z3⟩ := fw_A (by omega) (lt_s i2 hg) hnx
            refine g_eqw (w2 := ([(gb, .inr (6, [.ref hb, .ref b, .int (nI dw), .ref gn, .ref gv, .int (nI sd), .ref gk, .ref gr])), (gn, .inl (cQ, 12, .inr (.inr (.inr (.inr (fun i => some (na i))))))), (q1, .inl (cI, 31, .inl (upd fm k (nI (ks_ek P ca k))))), (r_2, .inl (cI, 4, .inl (fun i => nI ((ks_dg ca) i)))), (r_47, .inl (cI, (ks_st P ca + 1), .inl h_47))] ++ (tl_T cI 12 na (ks_nr P) 4 wa (ks_wr W) rc ra (ks_rr Q) n ka (ks_kn t S mu)))) (by rw [show ks_st P ca = k + 1 by omega]) ?_
            refine g_widen (k := 3) (n := 66) (by (try dsimp only); omega) (by (try dsimp only); omega) ?_
            refine g_subT (X2 := [(gb, .inr (6, [.ref hb, .ref b, .int (nI dw), .ref gn, .ref gv, .int (nI sd), .ref gk, .ref gr])), (gn, .inl (cQ, 12, .inr (.inr (.inr (.inr (fun i => some (na i))))))), (r_47, .inl (cI, (ks_st P ca + 1), .inl h_47))]) [0, 1, 4] (by decide) rfl ?_
            exact g_aret_x B hr (Or.inr ⟨_, rfl⟩) hlocks (r_47, h_47) (rfl) (⟨fun j hj => by rw [← z1] at hj; rw [hu47.1 j hj]; exact lt_s (p := fun j => upd fm k (nI (ks_ek P ca k)) j = nI (ks_ek P ca j)) (fun a ha => by rw [pk_un (by omega)]; exact i3 a ha) pk_us j hj, by rw [← z1, hu47.2, ← z2, fw_rI hg]⟩) rfl dX6_run_174
        · refine g_aload B dX6_run_76 6 rfl ?_
          refine g_iconst (v := (1 : Int32)) B dX6_run_78 (by decide) ?_
          refine g_iald B hK _ 0 (tl_g1 (i := (ks_nd P ca k)) (by omega)) rfl 1 rfl (by omega) (by omega) (v := nI (P.2.1 (ks_nd P ca k))) (rfl) dX6_run_79 ?_
          refine g_iconst (v := (1 : Int32)) B dX6_run_80 (by decide) ?_
          refine g_ncmp_ne (tgt := 93) B (P.2.1 (ks_nd P ca k)) 1 rfl rfl (by omega) (by omega) dX6_run_81 (by decide) (fun c48 => ?_) (fun c48 => ?_)
          · refine g_aload B dX6_run_93 6 rfl ?_
            refine g_iconst (v := (1 : Int32)) B dX6_run_95 (by decide) ?_
            refine g_iald B hK _ 0 (tl_g1 (i := (ks_nd P ca k)) (by omega)) rfl 1 rfl (by omega) (by omega) (v := nI (P.2.1 (ks_nd P ca k))) (rfl) dX6_run_96 ?_
            refine g_iconst (v := (2 : Int32)) B dX6_run_97 (by decide) ?_
            refine g_ncmp_ne (tgt := 114) B (P.2.1 (ks_nd P ca k)) 2 rfl rfl (by omega) (by omega) dX6_run_98 (by decide) (fun c49 => ?_) (fun c49 => ?_)
            · refine g_iconst (v := (0 : Int32)) B dX6_run_114 (by decide) ?_
              refine g_istore (lv' := [(0, .ref gb), (1, .int (nI ca)), (2, .ref q1), (3, .ref r_2), (4, .int (nI (ks_nd P ca k))), (5, .int (nI k)), (6, .ref (na (ks_nd P ca k))), (7, .int (nI ((ks_dg ca) (P.1 (ks_nd P ca k))))), (8, .int (0 : Int32))]) B dX6_run_115 (by decide) [1, 2, 3, 4, 5, 6, 7, 8, 0] rfl ?_
              have hso : ks_so P (ks_nd P ca k) ca = false := by unfold ks_so; split <;> (try split) <;> simp <;> omega
              refine g_aload_n B dX6_run_117 2 rfl ?_
              refine g_iload B dX6_run_118 5 rfl ?_
              refine g_iload B dX6_run_120 8 rfl ?_
              refine g_if_eq (tgt := 132) B dX6_run_122 (by decide) (fun _ => ?_) (fun c50 => absurd (by decide) c50)
              refine g_iconst (v := (2 : Int32)) B dX6_run_132 (by decide) ?_
              refine g_iload B dX6_run_133 4 rfl ?_
              refine g_imul (v := nI (2 * (ks_nd P ca k))) B dX6_run_135 (pk_mul 2 (ks_nd P ca k)) ?_
              refine g_iconst (v := (1 : Int32)) B dX6_run_136 (by decide) ?_
              refine g_iadd (v := nI ((2 * (ks_nd P ca k)) + 1)) B dX6_run_137 (nI_add (2 * (ks_nd P ca k)) 1) ?_
              refine g_eqi (y := nI (ks_ek P ca k)) (fw_ek0 hso) ?_
              have hg : ks_go P (ks_nd P ca k) = true := ks_go_of i4 c7
              have hek : ks_ek P ca k < 24 := (ks_eg_lt i4).1
              refine g_iast B hK 2 0 rfl rfl k rfl (by omega) (by omega) (f2 := (upd fm k (nI (ks_ek P ca k)))) (rfl) (w2 := ([(gb, .inr (6, [.ref hb, .ref b, .int (nI dw), .ref gn, .ref gv, .int (nI sd), .ref gk, .ref gr])), (gn, .inl (cQ, 12, .inr (.inr (.inr (.inr (fun i => some (na i))))))), (q1, .inl (cI, 31, .inl (upd fm k (nI (ks_ek P ca k))))), (r_2, .inl (cI, 4, .inl (fun i => nI ((ks_dg ca) i))))] ++ (tl_T cI 12 na (ks_nr P) 4 wa (ks_wr W) rc ra (ks_rr Q) n ka (ks_kn t S mu)))) rfl (fun _ h => h) dX6_run_138 ?_
              refine g_iload B dX6_run_139 8 rfl ?_
              refine g_if_eq (tgt := 151) B dX6_run_141 (by decide) (fun _ => ?_) (fun c51 => absurd (by decide) c51)
              refine g_aload B dX6_run_151 6 rfl ?_
              refine g_iconst (v := (4 : Int32)) B dX6_run_153 (by decide) ?_
              refine g_iald B hK _ 0 (tl_g1 (i := (ks_nd P ca k)) (by omega)) rfl 4 rfl (by omega) (by omega) (v := ks_tI (P.2.2.2.1 (2 * (ks_nd P ca k) + 1))) (rfl) dX6_run_154 ?_
              refine g_eqi (y := ks_tI (P.2.2.2.1 (ks_ek P ca k))) (by rw [show ks_ek P ca k = 2 * ks_nd P ca k + 1 from by unfold ks_ek ks_eg; rw [hso]; rfl]) ?_
              refine g_istore (lv' := [(0, .ref gb), (1, .int (nI ca)), (2, .ref q1), (3, .ref r_2), (4, .int (ks_tI (P.2.2.2.1 (ks_ek P ca k)))), (5, .int (nI k)), (6, .ref (na (ks_nd P ca k))), (7, .int (nI ((ks_dg ca) (P.1 (ks_nd P ca k))))), (8, .int (0 : Int32))]) B dX6_run_155 (by decide) [1, 2, 3, 4, 0, 5, 6, 7, 8] rfl ?_
              refine g_iload B dX6_run_157 4 rfl ?_
              refine g_tif_ge (tgt := 175) B dX6_run_159 (by decide) (fun c52 => ?_) (fun c52 => ?_)
              · have e1 := (ks_step hg).1
                have hn1 : ks_nd P ca (k + 1) < 12 := by rw [e1]; exact c52
                refine g_eqlv (lv2 := [(0, .ref gb), (1, .int (nI ca)), (2, .ref q1), (3, .ref r_2), (4, .int (nI (ks_nd P ca (k + 1)))), (5, .int (nI k)), (6, .ref (na (ks_nd P ca k))), (7, .int (nI ((ks_dg ca) (P.1 (ks_nd P ca k))))), (8, .int (0 : Int32))]) (by rw [e1, ks_tI_lt c52]) ?_
                refine g_iinc (lv' := [(0, .ref gb), (1, .int (nI ca)), (2, .ref q1), (3, .ref r_2), (4, .int (nI (ks_nd P ca (k + 1)))), (5, .int (nI (k + 1))), (6, .ref (na (ks_nd P ca k))), (7, .int (nI ((ks_dg ca) (P.1 (ks_nd P ca k))))), (8, .int (0 : Int32))]) B dX6_run_175 5 rfl (nI_1 k) (by decide) [1, 2, 3, 4, 5, 0, 6, 7, 8] rfl ?_
                refine g_goto (tgt := 16) B dX6_run_178 (by decide) ?_
                refine g_widen (k := 2) (n := 35) (by (try dsimp only); omega) (by (try dsimp only); omega) ?_
                exact g_pick [0, 1, 2, 3, 4, 5] rfl (ih16 (k + 1, (upd fm k (nI (ks_ek P ca k)))) (⟨by omega, lt_s i2 hg, lt_s (p := fun j => upd fm k (nI (ks_ek P ca k)) j = nI (ks_ek P ca j)) (fun a ha => by rw [pk_un (by omega)]; exact i3 a ha) pk_us, hn1⟩) (by (try dsimp only); omega))
              · refine g_aload_n B dX6_run_162 2 rfl ?_
                refine g_iload B dX6_run_163 5 rfl ?_
                refine g_iconst (v := (1 : Int32)) B dX6_run_165 (by decide) ?_
                refine g_iadd (v := nI (k + 1)) B dX6_run_166 (nI_add k 1) ?_
                refine g_aload_n B dX6_run_167 2 rfl ?_
                refine g_iload B dX6_run_168 5 rfl ?_
                refine g_iald B hK 2 0 rfl rfl k rfl (by omega) (by omega) (v := nI (ks_ek P ca k)) rfl dX6_run_170 ?_
                refine g_callU (w2 := (fun (z9 : Nat × (Nat → Int32)) => [(gb, .inr (6, [.ref hb, .ref b, .int (nI dw), .ref gn, .ref gv, .int (nI sd), .ref gk, .ref gr])), (gn, .inl (cQ, 12, .inr (.inr (.inr (.inr (fun i => some (na i))))))), (q1, .inl (cI, 31, .inl (upd fm k (nI (ks_ek P ca k))))), (r_2, .inl (cI, 4, .inl (fun i => nI ((ks_dg ca) i)))), (z9.1, .inl (cI, ((k + 1) + 1), .inl z9.2))])) (g_runS B (b_told l (D := D) (cI := cI) (cL := cL) (cZ := cZ) (cQ := cQ) q1 (k + 1) (ks_ek P ca k) (upd fm k (nI (ks_ek P ca k))) (by first | with_reducible assumption | omega | assumption)) (gPw.pre (av := [.ref q1, .int (nI (k + 1)), .int (nI (ks_ek P ca k))]) (wc := [(q1, .inl (cI, 31, .inl (upd fm k (nI (ks_ek P ca k)))))]) hK hN [2] rfl (by decide)) gX6_run_X6_told rfl kd_X6_told ⟨by decide, by decide⟩ (st := []) rfl (Nat.le_of_ble_eq_true rfl) dX6_run_171 ⟨by (try dsimp only); omega, by (try dsimp only); omega⟩) hA (fun _ h => h) [2] [0, 1, 3] (wr := [(gb, .inr (6, [.ref hb, .ref b, .int (nI dw), .ref gn, .ref gv, .int (nI sd), .ref gk, .ref gr])), (gn, .inl (cQ, 12, .inr (.inr (.inr (.inr (fun i => some (na i))))))), (r_2, .inl (cI, 4, .inl (fun i => nI ((ks_dg ca) i))))]) rfl rfl (by decide) (by decide) [0, 1, 3, 2, 4] (by decide) (fun _ => rfl) (fun u hu => ?_)
                obtain ⟨r_53, h_53⟩ := u
                try dsimp only at hu ⊢
                have hu53 := hu
                have hnx : ¬ ks_nd P ca (k + 1) < 12 := by rw [(ks_step hg).1]; exact c52
                obtain ⟨z1, z2, z3⟩ := fw_A (by omega) (lt_s i2 hg) hnx
                refine g_eqw (w2 := ([(gb, .inr (6, [.ref hb, .ref b, .int (nI dw), .ref gn, .ref gv, .int (nI sd), .ref gk, .ref gr])), (gn, .inl (cQ, 12, .inr (.inr (.inr (.inr (fun i => some (na i))))))), (q1, .inl (cI, 31, .inl (upd fm k (nI (ks_ek P ca k))))), (r_2, .inl (cI, 4, .inl (fun i => nI ((ks_dg ca) i)))), (r_53, .inl (cI, (ks_st P ca + 1), .inl h_53))] ++ (tl_T cI 12 na (ks_nr P) 4 wa (ks_wr W) rc ra (ks_rr Q) n ka (ks_kn t S mu)))) (by rw [show ks_st P ca = k + 1 by omega]) ?_
                refine g_widen (k := 3) (n := 66) (by (try dsimp only); omega) (by (try dsimp only); omega) ?_
                refine g_subT (X2 := [(gb, .inr (6, [.ref hb, .ref b, .int (nI dw), .ref gn, .ref gv, .int (nI sd), .ref gk, .ref gr])), (gn, .inl (cQ, 12, .inr (.inr (.inr (.inr (fun i => some (na i))))))), (r_53, .inl (cI, (ks_st P ca + 1), .inl h_53))]) [0, 1, 4] (by decide) rfl ?_
                exact g_aret_x B hr (Or.inr ⟨_, rfl⟩) hlocks (r_53, h_53) (rfl) (⟨fun j hj => by rw [← z1] at hj; rw [hu53.1 j hj]; exact lt_s (p := fun j => upd fm k (nI (ks_ek P ca k)) j = nI (ks_ek P ca j)) (fun a ha => by rw [pk_un (by omega)]; exact i3 a ha) pk_us j hj, by rw [← z1, hu53.2, ← z2, fw_rI hg]⟩) rfl dX6_run_174
            · refine g_iload B dX6_run_101 7 rfl ?_
              refine g_aload B dX6_run_103 6 rfl ?_
              refine g_iconst (v := (2 : Int32)) B dX6_run_105 (by decide) ?_
              refine g_iald B hK _ 0 (tl_g1 (i := (ks_nd P ca k)) (by omega)) rfl 2 rfl (by omega) (by omega) (v := nI (P.2.2.1 (ks_nd P ca k))) (rfl) dX6_run_106 ?_
              refine g_ncmp_le (tgt := 114) B ((ks_dg ca) (P.1 (ks_nd P ca k))) (P.2.2.1 (ks_nd P ca k)) rfl rfl (by omega) (by omega) dX6_run_107 (by decide) (fun c54 => ?_) (fun c54 => ?_)
              · refine g_iconst (v := (0 : Int32)) B dX6_run_114 (by decide) ?_
                refine g_istore (lv' := [(0, .ref gb), (1, .int (nI ca)), (2, .ref q1), (3, .ref r_2), (4, .int (nI (ks_nd P ca k))), (5, .int (nI k)), (6, .ref (na (ks_nd P ca k))), (7, .int (nI ((ks_dg ca) (P.1 (ks_nd P ca k))))), (8, .int (0 : Int32))]) B dX6_run_115 (by decide) [1, 2, 3, 4, 5, 6, 7, 8, 0] rfl ?_
                have hso : ks_so P (ks_nd P ca k) ca = false := by unfold ks_so; split <;> (try split) <;> simp <;> omega
                refine g_aload_n B dX6_run_117 2 rfl ?_
                refine g_iload B dX6_run_118 5 rfl ?_
                refine g_iload B dX6_run_120 8 rfl ?_
                refine g_if_eq (tgt := 132) B dX6_run_122 (by decide) (fun _ => ?_) (fun c55 => absurd (by decide) c55)
                refine g_iconst (v := (2 : Int32)) B dX6_run_132 (by decide) ?_
                refine g_iload B dX6_run_133 4 rfl ?_
                refine g_imul (v := nI (2 * (ks_nd P ca k))) B dX6_run_135 (pk_mul 2 (ks_nd P ca k)) ?_
                refine g_iconst (v := (1 : Int32)) B dX6_run_136 (by decide) ?_
                refine g_iadd (v := nI ((2 * (ks_nd P ca k)) + 1)) B dX6_run_137 (nI_add (2 * (ks_nd P ca k)) 1) ?_
                refine g_eqi (y := nI (ks_ek P ca k)) (fw_ek0 hso) ?_
                have hg : ks_go P (ks_nd P ca k) = true := ks_go_of i4 c7
                have hek : ks_ek P ca k < 24 := (ks_eg_lt i4).1
                refine g_iast B hK 2 0 rfl rfl k rfl (by omega) (by omega) (f2 := (upd fm k (nI (ks_ek P ca k)))) (rfl) (w2 := ([(gb, .inr (6, [.ref hb, .ref b, .int (nI dw), .ref gn, .ref gv, .int (nI sd), .ref gk, .ref gr])), (gn, .inl (cQ, 12, .inr (.inr (.inr (.inr (fun i => some (na i))))))), (q1, .inl (cI, 31, .inl (upd fm k (nI (ks_ek P ca k))))), (r_2, .inl (cI, 4, .inl (fun i => nI ((ks_dg ca) i))))] ++ (tl_T cI 12 na (ks_nr P) 4 wa (ks_wr W) rc ra (ks_rr Q) n ka (ks_kn t S mu)))) rfl (fun _ h => h) dX6_run_138 ?_
                refine g_iload B dX6_run_139 8 rfl ?_
                refine g_if_eq (tgt := 151) B dX6_run_141 (by decide) (fun _ => ?_) (fun c56 => absurd (by decide) c56)
                refine g_aload B dX6_run_151 6 rfl ?_
                refine g_iconst (v := (4 : Int32)) B dX6_run_153 (by decide) ?_
                refine g_iald B hK _ 0 (tl_g1 (i := (ks_nd P ca k)) (by omega)) rfl 4 rfl (by omega) (by omega) (v := ks_tI (P.2.2.2.1 (2 * (ks_nd P ca k) + 1))) (rfl) dX6_run_154 ?_
                refine g_eqi (y := ks_tI (P.2.2.2.1 (ks_ek P ca k))) (by rw [show ks_ek P ca k = 2 * ks_nd P ca k + 1 from by unfold ks_ek ks_eg; rw [hso]; rfl]) ?_
                refine g_istore (lv' := [(0, .ref gb), (1, .int (nI ca)), (2, .ref q1), (3, .ref r_2), (4, .int (ks_tI (P.2.2.2.1 (ks_ek P ca k)))), (5, .int (nI k)), (6, .ref (na (ks_nd P ca k))), (7, .int (nI ((ks_dg ca) (P.1 (ks_nd P ca k))))), (8, .int (0 : Int32))]) B dX6_run_155 (by decide) [1, 2, 3, 4, 0, 5, 6, 7, 8] rfl ?_
                refine g_iload B dX6_run_157 4 rfl ?_
                refine g_tif_ge (tgt := 175) B dX6_run_159 (by decide) (fun c57 => ?_) (fun c57 => ?_)
                · have e1 := (ks_step hg).1
                  have hn1 : ks_nd P ca (k + 1) < 12 := by rw [e1]; exact c57
                  refine g_eqlv (lv2 := [(0, .ref gb), (1, .int (nI ca)), (2, .ref q1), (3, .ref r_2), (4, .int (nI (ks_nd P ca (k + 1)))), (5, .int (nI k)), (6, .ref (na (ks_nd P ca k))), (7, .int (nI ((ks_dg ca) (P.1 (ks_nd P ca k))))), (8, .int (0 : Int32))]) (by rw [e1, ks_tI_lt c57]) ?_
                  refine g_iinc (lv' := [(0, .ref gb), (1, .int (nI ca)), (2, .ref q1), (3, .ref r_2), (4, .int (nI (ks_nd P ca (k + 1)))), (5, .int (nI (k + 1))), (6, .ref (na (ks_nd P ca k))), (7, .int (nI ((ks_dg ca) (P.1 (ks_nd P ca k))))), (8, .int (0 : Int32))]) B dX6_run_175 5 rfl (nI_1 k) (by decide) [1, 2, 3, 4, 5, 0, 6, 7, 8] rfl ?_
                  refine g_goto (tgt := 16) B dX6_run_178 (by decide) ?_
                  refine g_widen (k := 2) (n := 35) (by (try dsimp only); omega) (by (try dsimp only); omega) ?_
                  exact g_pick [0, 1, 2, 3, 4, 5] rfl (ih16 (k + 1, (upd fm k (nI (ks_ek P ca k)))) (⟨by omega, lt_s i2 hg, lt_s (p := fun j => upd fm k (nI (ks_ek P ca k)) j = nI (ks_ek P ca j)) (fun a ha => by rw [pk_un (by omega)]; exact i3 a ha) pk_us, hn1⟩) (by (try dsimp only); omega))
                · refine g_aload_n B dX6_run_162 2 rfl ?_
                  refine g_iload B dX6_run_163 5 rfl ?_
                  refine g_iconst (v := (1 : Int32)) B dX6_run_165 (by decide) ?_
                  refine g_iadd (v := nI (k + 1)) B dX6_run_166 (nI_add k 1) ?_
                  refine g_aload_n B dX6_run_167 2 rfl ?_
                  refine g_iload B dX6_run_168 5 rfl ?_
                  refine g_iald B hK 2 0 rfl rfl k rfl (by omega) (by omega) (v := nI (ks_ek P ca k)) rfl dX6_run_170 ?_
                  refine g_callU (w2 := (fun (z9 : Nat × (Nat → Int32)) => [(gb, .inr (6, [.ref hb, .ref b, .int (nI dw), .ref gn, .ref gv, .int (nI sd), .ref gk, .ref gr])), (gn, .inl (cQ, 12, .inr (.inr (.inr (.inr (fun i => some (na i))))))), (q1, .inl (cI, 31, .inl (upd fm k (nI (ks_ek P ca k))))), (r_2, .inl (cI, 4, .inl (fun i => nI ((ks_dg ca) i)))), (z9.1, .inl (cI, ((k + 1) + 1), .inl z9.2))])) (g_runS B (b_told l (D := D) (cI := cI) (cL := cL) (cZ := cZ) (cQ := cQ) q1 (k + 1) (ks_ek P ca k) (upd fm k (nI (ks_ek P ca k))) (by first | with_reducible assumption | omega | assumption)) (gPw.pre (av := [.ref q1, .int (nI (k + 1)), .int (nI (ks_ek P ca k))]) (wc := [(q1, .inl (cI, 31, .inl (upd fm k (nI (ks_ek P ca k)))))]) hK hN [2] rfl (by decide)) gX6_run_X6_told rfl kd_X6_told ⟨by decide, by decide⟩ (st := []) rfl (Nat.le_of_ble_eq_true rfl) dX6_run_171 ⟨by (try dsimp only); omega, by (try dsimp only); omega⟩) hA (fun _ h => h) [2] [0, 1, 3] (wr := [(gb, .inr (6, [.ref hb, .ref b, .int (nI dw), .ref gn, .ref gv, .int (nI sd), .ref gk, .ref gr])), (gn, .inl (cQ, 12, .inr (.inr (.inr (.inr (fun i => some (na i))))))), (r_2, .inl (cI, 4, .inl (fun i => nI ((ks_dg ca) i))))]) rfl rfl (by decide) (by decide) [0, 1, 3, 2, 4] (by decide) (fun _ => rfl) (fun u hu => ?_)
                  obtain ⟨r_58, h_58⟩ := u
                  try dsimp only at hu ⊢
                  have hu58 := hu
                  have hnx : ¬ ks_nd P ca (k + 1) < 12 := by rw [(ks_step hg).1]; exact c57
                  obtain ⟨z1, z2, z3⟩ := fw_A (by omega) (lt_s i2 hg) hnx
                  refine g_eqw (w2 := ([(gb, .inr (6, [.ref hb, .ref b, .int (nI dw), .ref gn, .ref gv, .int (nI sd), .ref gk, .ref gr])), (gn, .inl (cQ, 12, .inr (.inr (.inr (.inr (fun i => some (na i))))))), (q1, .inl (cI, 31, .inl (upd fm k (nI (ks_ek P ca k))))), (r_2, .inl (cI, 4, .inl (fun i => nI ((ks_dg ca) i)))), (r_58, .inl (cI, (ks_st P ca + 1), .inl h_58))] ++ (tl_T cI 12 na (ks_nr P) 4 wa (ks_wr W) rc ra (ks_rr Q) n ka (ks_kn t S mu)))) (by rw [show ks_st P ca = k + 1 by omega]) ?_
                  refine g_widen (k := 3) (n := 66) (by (try dsimp only); omega) (by (try dsimp only); omega) ?_
                  refine g_subT (X2 := [(gb, .inr (6, [.ref hb, .ref b, .int (nI dw), .ref gn, .ref gv, .int (nI sd), .ref gk, .ref gr])), (gn, .inl (cQ, 12, .inr (.inr (.inr (.inr (fun i => some (na i))))))), (r_58, .inl (cI, (ks_st P ca + 1), .inl h_58))]) [0, 1, 4] (by decide) rfl ?_
                  exact g_aret_x B hr (Or.inr ⟨_, rfl⟩) hlocks (r_58, h_58) (rfl) (⟨fun j hj => by rw [← z1] at hj; rw [hu58.1 j hj]; exact lt_s (p := fun j => upd fm k (nI (ks_ek P ca k)) j = nI (ks_ek P ca j)) (fun a ha => by rw [pk_un (by omega)]; exact i3 a ha) pk_us j hj, by rw [← z1, hu58.2, ← z2, fw_rI hg]⟩) rfl dX6_run_174
              · refine g_iconst (v := (1 : Int32)) B dX6_run_110 (by decide) ?_
                refine g_goto (tgt := 115) B dX6_run_111 (by decide) ?_
                refine g_istore (lv' := [(0, .ref gb), (1, .int (nI ca)), (2, .ref q1), (3, .ref r_2), (4, .int (nI (ks_nd P ca k))), (5, .int (nI k)), (6, .ref (na (ks_nd P ca k))), (7, .int (nI ((ks_dg ca) (P.1 (ks_nd P ca k))))), (8, .int (1 : Int32))]) B dX6_run_115 (by decide) [1, 2, 3, 4, 5, 6, 7, 8, 0] rfl ?_
                have hso : ks_so P (ks_nd P ca k) ca = true := by unfold ks_so; split <;> (try split) <;> simp <;> omega
                refine g_aload_n B dX6_run_117 2 rfl ?_
                refine g_iload B dX6_run_118 5 rfl ?_
                refine g_iload B dX6_run_120 8 rfl ?_
                refine g_if_eq (tgt := 132) B dX6_run_122 (by decide) (fun c59 => absurd c59 (by decide)) (fun _ => ?_)
                refine g_iconst (v := (2 : Int32)) B dX6_run_125 (by decide) ?_
                refine g_iload B dX6_run_126 4 rfl ?_
                refine g_imul (v := nI (2 * (ks_nd P ca k))) B dX6_run_128 (pk_mul 2 (ks_nd P ca k)) ?_
                refine g_goto (tgt := 138) B dX6_run_129 (by decide) ?_
                refine g_eqi (y := nI (ks_ek P ca k)) (fw_ek1 hso) ?_
                have hg : ks_go P (ks_nd P ca k) = true := ks_go_of i4 c7
                have hek : ks_ek P ca k < 24 := (ks_eg_lt i4).1
                refine g_iast B hK 2 0 rfl rfl k rfl (by omega) (by omega) (f2 := (upd fm k (nI (ks_ek P ca k)))) (rfl) (w2 := ([(gb, .inr (6, [.ref hb, .ref b, .int (nI dw), .ref gn, .ref gv, .int (nI sd), .ref gk, .ref gr])), (gn, .inl (cQ, 12, .inr (.inr (.inr (.inr (fun i => some (na i))))))), (q1, .inl (cI, 31, .inl (upd fm k (nI (ks_ek P ca k))))), (r_2, .inl (cI, 4, .inl (fun i => nI ((ks_dg ca) i))))] ++ (tl_T cI 12 na (ks_nr P) 4 wa (ks_wr W) rc ra (ks_rr Q) n ka (ks_kn t S mu)))) rfl (fun _ h => h) dX6_run_138 ?_
                refine g_iload B dX6_run_139 8 rfl ?_
                refine g_if_eq (tgt := 151) B dX6_run_141 (by decide) (fun c60 => absurd c60 (by decide)) (fun _ => ?_)
                refine g_aload B dX6_run_144 6 rfl ?_
                refine g_iconst (v := (3 : Int32)) B dX6_run_146 (by decide) ?_
                refine g_iald B hK _ 0 (tl_g1 (i := (ks_nd P ca k)) (by omega)) rfl 3 rfl (by omega) (by omega) (v := ks_tI (P.2.2.2.1 (2 * (ks_nd P ca k)))) (rfl) dX6_run_147 ?_
                refine g_goto (tgt := 155) B dX6_run_148 (by decide) ?_
                refine g_eqi (y := ks_tI (P.2.2.2.1 (ks_ek P ca k))) (by rw [show ks_ek P ca k = 2 * ks_nd P ca k from by unfold ks_ek ks_eg; rw [hso]; rfl]) ?_
                refine g_istore (lv' := [(0, .ref gb), (1, .int (nI ca)), (2, .ref q1), (3, .ref r_2), (4, .int (ks_tI (P.2.2.2.1 (ks_ek P ca k)))), (5, .int (nI k)), (6, .ref (na (ks_nd P ca k))), (7, .int (nI ((ks_dg ca) (P.1 (ks_nd P ca k))))), (8, .int (1 : Int32))]) B dX6_run_155 (by decide) [1, 2, 3, 4, 0, 5, 6, 7, 8] rfl ?_
                refine g_iload B dX6_run_157 4 rfl ?_
                refine g_tif_ge (tgt := 175) B dX6_run_159 (by decide) (fun c61 => ?_) (fun c61 => ?_)
                · have e1 := (ks_step hg).1
                  have hn1 : ks_nd P ca (k + 1) < 12 := by rw [e1]; exact c61
                  refine g_eqlv (lv2 := [(0, .ref gb), (1, .int (nI ca)), (2, .ref q1), (3, .ref r_2), (4, .int (nI (ks_nd P ca (k + 1)))), (5, .int (nI k)), (6, .ref (na (ks_nd P ca k))), (7, .int (nI ((ks_dg ca) (P.1 (ks_nd P ca k))))), (8, .int (1 : Int32))]) (by rw [e1, ks_tI_lt c61]) ?_
                  refine g_iinc (lv' := [(0, .ref gb), (1, .int (nI ca)), (2, .ref q1), (3, .ref r_2), (4, .int (nI (ks_nd P ca (k + 1)))), (5, .int (nI (k + 1))), (6, .ref (na (ks_nd P ca k))), (7, .int (nI ((ks_dg ca) (P.1 (ks_nd P ca k))))), (8, .int (1 : Int32))]) B dX6_run_175 5 rfl (nI_1 k) (by decide) [1, 2, 3, 4, 5, 0, 6, 7, 8] rfl ?_
                  refine g_goto (tgt := 16) B dX6_run_178 (by decide) ?_
                  refine g_widen (k := 2) (n := 35) (by (try dsimp only); omega) (by (try dsimp only); omega) ?_
                  exact g_pick [0, 1, 2, 3, 4, 5] rfl (ih16 (k + 1, (upd fm k (nI (ks_ek P ca k)))) (⟨by omega, lt_s i2 hg, lt_s (p := fun j => upd fm k (nI (ks_ek P ca k)) j = nI (ks_ek P ca j)) (fun a ha => by rw [pk_un (by omega)]; exact i3 a ha) pk_us, hn1⟩) (by (try dsimp only); omega))
                · refine g_aload_n B dX6_run_162 2 rfl ?_
                  refine g_iload B dX6_run_163 5 rfl ?_
                  refine g_iconst (v := (1 : Int32)) B dX6_run_165 (by decide) ?_
                  refine g_iadd (v := nI (k + 1)) B dX6_run_166 (nI_add k 1) ?_
                  refine g_aload_n B dX6_run_167 2 rfl ?_
                  refine g_iload B dX6_run_168 5 rfl ?_
                  refine g_iald B hK 2 0 rfl rfl k rfl (by omega) (by omega) (v := nI (ks_ek P ca k)) rfl dX6_run_170 ?_
                  refine g_callU (w2 := (fun (z9 : Nat × (Nat → Int32)) => [(gb, .inr (6, [.ref hb, .ref b, .int (nI dw), .ref gn, .ref gv, .int (nI sd), .ref gk, .ref gr])), (gn, .inl (cQ, 12, .inr (.inr (.inr (.inr (fun i => some (na i))))))), (q1, .inl (cI, 31, .inl (upd fm k (nI (ks_ek P ca k))))), (r_2, .inl (cI, 4, .inl (fun i => nI ((ks_dg ca) i)))), (z9.1, .inl (cI, ((k + 1) + 1), .inl z9.2))])) (g_runS B (b_told l (D := D) (cI := cI) (cL := cL) (cZ := cZ) (cQ := cQ) q1 (k + 1) (ks_ek P ca k) (upd fm k (nI (ks_ek P ca k))) (by first | with_reducible assumption | omega | assumption)) (gPw.pre (av := [.ref q1, .int (nI (k + 1)), .int (nI (ks_ek P ca k))]) (wc := [(q1, .inl (cI, 31, .inl (upd fm k (nI (ks_ek P ca k)))))]) hK hN [2] rfl (by decide)) gX6_run_X6_told rfl kd_X6_told ⟨by decide, by decide⟩ (st := []) rfl (Nat.le_of_ble_eq_true rfl) dX6_run_171 ⟨by (try dsimp only); omega, by (try dsimp only); omega⟩) hA (fun _ h => h) [2] [0, 1, 3] (wr := [(gb, .inr (6, [.ref hb, .ref b, .int (nI dw), .ref gn, .ref gv, .int (nI sd), .ref gk, .ref gr])), (gn, .inl (cQ, 12, .inr (.inr (.inr (.inr (fun i => some (na i))))))), (r_2, .inl (cI, 4, .inl (fun i => nI ((ks_dg ca) i))))]) rfl rfl (by decide) (by decide) [0, 1, 3, 2, 4] (by decide) (fun _ => rfl) (fun u hu => ?_)
                  obtain ⟨r_62, h_62⟩ := u
                  try dsimp only at hu ⊢
                  have hu62 := hu
                  have hnx : ¬ ks_nd P ca (k + 1) < 12 := by rw [(ks_step hg).1]; exact c61
                  obtain ⟨z1, z2, z3⟩ := fw_A (by omega) (lt_s i2 hg) hnx
                  refine g_eqw (w2 := ([(gb, .inr (6, [.ref hb, .ref b, .int (nI dw), .ref gn, .ref gv, .int (nI sd), .ref gk, .ref gr])), (gn, .inl (cQ, 12, .inr (.inr (.inr (.inr (fun i => some (na i))))))), (q1, .inl (cI, 31, .inl (upd fm k (nI (ks_ek P ca k))))), (r_2, .inl (cI, 4, .inl (fun i => nI ((ks_dg ca) i)))), (r_62, .inl (cI, (ks_st P ca + 1), .inl h_62))] ++ (tl_T cI 12 na (ks_nr P) 4 wa (ks_wr W) rc ra (ks_rr Q) n ka (ks_kn t S mu)))) (by rw [show ks_st P ca = k + 1 by omega]) ?_
                  refine g_widen (k := 3) (n := 66) (by (try dsimp only); omega) (by (try dsimp only); omega) ?_
                  refine g_subT (X2 := [(gb, .inr (6, [.ref hb, .ref b, .int (nI dw), .ref gn, .ref gv, .int (nI sd), .ref gk, .ref gr])), (gn, .inl (cQ, 12, .inr (.inr (.inr (.inr (fun i => some (na i))))))), (r_62, .inl (cI, (ks_st P ca + 1), .inl h_62))]) [0, 1, 4] (by decide) rfl ?_
                  exact g_aret_x B hr (Or.inr ⟨_, rfl⟩) hlocks (r_62, h_62) (rfl) (⟨fun j hj => by rw [← z1] at hj; rw [hu62.1 j hj]; exact lt_s (p := fun j => upd fm k (nI (ks_ek P ca k)) j = nI (ks_ek P ca j)) (fun a ha => by rw [pk_un (by omega)]; exact i3 a ha) pk_us j hj, by rw [← z1, hu62.2, ← z2, fw_rI hg]⟩) rfl dX6_run_174
          · refine g_iload B dX6_run_84 7 rfl ?_
            refine g_aload B dX6_run_86 6 rfl ?_
            refine g_iconst (v := (2 : Int32)) B dX6_run_88 (by decide) ?_
            refine g_iald B hK _ 0 (tl_g1 (i := (ks_nd P ca k)) (by omega)) rfl 2 rfl (by omega) (by omega) (v := nI (P.2.2.1 (ks_nd P ca k))) (rfl) dX6_run_89 ?_
            refine g_ncmp_eq (tgt := 110) B ((ks_dg ca) (P.1 (ks_nd P ca k))) (P.2.2.1 (ks_nd P ca k)) rfl rfl (by omega) (by omega) dX6_run_90 (by decide) (fun c63 => ?_) (fun c63 => ?_)
            · refine g_iconst (v := (1 : Int32)) B dX6_run_110 (by decide) ?_
              refine g_goto (tgt := 115) B dX6_run_111 (by decide) ?_
              refine g_istore (lv' := [(0, .ref gb), (1, .int (nI ca)), (2, .ref q1), (3, .ref r_2), (4, .int (nI (ks_nd P ca k))), (5, .int (nI k)), (6, .ref (na (ks_nd P ca k))), (7, .int (nI ((ks_dg ca) (P.1 (ks_nd P ca k))))), (8, .int (1 : Int32))]) B dX6_run_115 (by decide) [1, 2, 3, 4, 5, 6, 7, 8, 0] rfl ?_
              have hso : ks_so P (ks_nd P ca k) ca = true := by unfold ks_so; split <;> (try split) <;> simp <;> omega
              refine g_aload_n B dX6_run_117 2 rfl ?_
              refine g_iload B dX6_run_118 5 rfl ?_
              refine g_iload B dX6_run_120 8 rfl ?_
              refine g_if_eq (tgt := 132) B dX6_run_122 (by decide) (fun c64 => absurd c64 (by decide)) (fun _ => ?_)
              refine g_iconst (v := (2 : Int32)) B dX6_run_125 (by decide) ?_
              refine g_iload B dX6_run_126 4 rfl ?_
              refine g_imul (v := nI (2 * (ks_nd P ca k))) B dX6_run_128 (pk_mul 2 (ks_nd P ca k)) ?_
              refine g_goto (tgt := 138) B dX6_run_129 (by decide) ?_
              refine g_eqi (y := nI (ks_ek P ca k)) (fw_ek1 hso) ?_
              have hg : ks_go P (ks_nd P ca k) = true := ks_go_of i4 c7
              have hek : ks_ek P ca k < 24 := (ks_eg_lt i4).1
              refine g_iast B hK 2 0 rfl rfl k rfl (by omega) (by omega) (f2 := (upd fm k (nI (ks_ek P ca k)))) (rfl) (w2 := ([(gb, .inr (6, [.ref hb, .ref b, .int (nI dw), .ref gn, .ref gv, .int (nI sd), .ref gk, .ref gr])), (gn, .inl (cQ, 12, .inr (.inr (.inr (.inr (fun i => some (na i))))))), (q1, .inl (cI, 31, .inl (upd fm k (nI (ks_ek P ca k))))), (r_2, .inl (cI, 4, .inl (fun i => nI ((ks_dg ca) i))))] ++ (tl_T cI 12 na (ks_nr P) 4 wa (ks_wr W) rc ra (ks_rr Q) n ka (ks_kn t S mu)))) rfl (fun _ h => h) dX6_run_138 ?_
              refine g_iload B dX6_run_139 8 rfl ?_
              refine g_if_eq (tgt := 151) B dX6_run_141 (by decide) (fun c65 => absurd c65 (by decide)) (fun _ => ?_)
              refine g_aload B dX6_run_144 6 rfl ?_
              refine g_iconst (v := (3 : Int32)) B dX6_run_146 (by decide) ?_
              refine g_iald B hK _ 0 (tl_g1 (i := (ks_nd P ca k)) (by omega)) rfl 3 rfl (by omega) (by omega) (v := ks_tI (P.2.2.2.1 (2 * (ks_nd P ca k)))) (rfl) dX6_run_147 ?_
              refine g_goto (tgt := 155) B dX6_run_148 (by decide) ?_
              refine g_eqi (y := ks_tI (P.2.2.2.1 (ks_ek P ca k))) (by rw [show ks_ek P ca k = 2 * ks_nd P ca k from by unfold ks_ek ks_eg; rw [hso]; rfl]) ?_
              refine g_istore (lv' := [(0, .ref gb), (1, .int (nI ca)), (2, .ref q1), (3, .ref r_2), (4, .int (ks_tI (P.2.2.2.1 (ks_ek P ca k)))), (5, .int (nI k)), (6, .ref (na (ks_nd P ca k))), (7, .int (nI ((ks_dg ca) (P.1 (ks_nd P ca k))))), (8, .int (1 : Int32))]) B dX6_run_155 (by decide) [1, 2, 3, 4, 0, 5, 6, 7, 8] rfl ?_
              refine g_iload B dX6_run_157 4 rfl ?_
              refine g_tif_ge (tgt := 175) B dX6_run_159 (by decide) (fun c66 => ?_) (fun c66 => ?_)
              · have e1 := (ks_step hg).1
                have hn1 : ks_nd P ca (k + 1) < 12 := by rw [e1]; exact c66
                refine g_eqlv (lv2 := [(0, .ref gb), (1, .int (nI ca)), (2, .ref q1), (3, .ref r_2), (4, .int (nI (ks_nd P ca (k + 1)))), (5, .int (nI k)), (6, .ref (na (ks_nd P ca k))), (7, .int (nI ((ks_dg ca) (P.1 (ks_nd P ca k))))), (8, .int (1 : Int32))]) (by rw [e1, ks_tI_lt c66]) ?_
                refine g_iinc (lv' := [(0, .ref gb), (1, .int (nI ca)), (2, .ref q1), (3, .ref r_2), (4, .int (nI (ks_nd P ca (k + 1)))), (5, .int (nI (k + 1))), (6, .ref (na (ks_nd P ca k))), (7, .int (nI ((ks_dg ca) (P.1 (ks_nd P ca k))))), (8, .int (1 : Int32))]) B dX6_run_175 5 rfl (nI_1 k) (by decide) [1, 2, 3, 4, 5, 0, 6, 7, 8] rfl ?_
                refine g_goto (tgt := 16) B dX6_run_178 (by decide) ?_
                refine g_widen (k := 2) (n := 35) (by (try dsimp only); omega) (by (try dsimp only); omega) ?_
                exact g_pick [0, 1, 2, 3, 4, 5] rfl (ih16 (k + 1, (upd fm k (nI (ks_ek P ca k)))) (⟨by omega, lt_s i2 hg, lt_s (p := fun j => upd fm k (nI (ks_ek P ca k)) j = nI (ks_ek P ca j)) (fun a ha => by rw [pk_un (by omega)]; exact i3 a ha) pk_us, hn1⟩) (by (try dsimp only); omega))
              · refine g_aload_n B dX6_run_162 2 rfl ?_
                refine g_iload B dX6_run_163 5 rfl ?_
                refine g_iconst (v := (1 : Int32)) B dX6_run_165 (by decide) ?_
                refine g_iadd (v := nI (k + 1)) B dX6_run_166 (nI_add k 1) ?_
                refine g_aload_n B dX6_run_167 2 rfl ?_
                refine g_iload B dX6_run_168 5 rfl ?_
                refine g_iald B hK 2 0 rfl rfl k rfl (by omega) (by omega) (v := nI (ks_ek P ca k)) rfl dX6_run_170 ?_
                refine g_callU (w2 := (fun (z9 : Nat × (Nat → Int32)) => [(gb, .inr (6, [.ref hb, .ref b, .int (nI dw), .ref gn, .ref gv, .int (nI sd), .ref gk, .ref gr])), (gn, .inl (cQ, 12, .inr (.inr (.inr (.inr (fun i => some (na i))))))), (q1, .inl (cI, 31, .inl (upd fm k (nI (ks_ek P ca k))))), (r_2, .inl (cI, 4, .inl (fun i => nI ((ks_dg ca) i)))), (z9.1, .inl (cI, ((k + 1) + 1), .inl z9.2))])) (g_runS B (b_told l (D := D) (cI := cI) (cL := cL) (cZ := cZ) (cQ := cQ) q1 (k + 1) (ks_ek P ca k) (upd fm k (nI (ks_ek P ca k))) (by first | with_reducible assumption | omega | assumption)) (gPw.pre (av := [.ref q1, .int (nI (k + 1)), .int (nI (ks_ek P ca k))]) (wc := [(q1, .inl (cI, 31, .inl (upd fm k (nI (ks_ek P ca k)))))]) hK hN [2] rfl (by decide)) gX6_run_X6_told rfl kd_X6_told ⟨by decide, by decide⟩ (st := []) rfl (Nat.le_of_ble_eq_true rfl) dX6_run_171 ⟨by (try dsimp only); omega, by (try dsimp only); omega⟩) hA (fun _ h => h) [2] [0, 1, 3] (wr := [(gb, .inr (6, [.ref hb, .ref b, .int (nI dw), .ref gn, .ref gv, .int (nI sd), .ref gk, .ref gr])), (gn, .inl (cQ, 12, .inr (.inr (.inr (.inr (fun i => some (na i))))))), (r_2, .inl (cI, 4, .inl (fun i => nI ((ks_dg ca) i))))]) rfl rfl (by decide) (by decide) [0, 1, 3, 2, 4] (by decide) (fun _ => rfl) (fun u hu => ?_)
                obtain ⟨r_67, h_67⟩ := u
                try dsimp only at hu ⊢
                have hu67 := hu
                have hnx : ¬ ks_nd P ca (k + 1) < 12 := by rw [(ks_step hg).1]; exact c66
                obtain ⟨z1, z2, z3⟩ := fw_A (by omega) (lt_s i2 hg) hnx
                refine g_eqw (w2 := ([(gb, .inr (6, [.ref hb, .ref b, .int (nI dw), .ref gn, .ref gv, .int (nI sd), .ref gk, .ref gr])), (gn, .inl (cQ, 12, .inr (.inr (.inr (.inr (fun i => some (na i))))))), (q1, .inl (cI, 31, .inl (upd fm k (nI (ks_ek P ca k))))), (r_2, .inl (cI, 4, .inl (fun i => nI ((ks_dg ca) i)))), (r_67, .inl (cI, (ks_st P ca + 1), .inl h_67))] ++ (tl_T cI 12 na (ks_nr P) 4 wa (ks_wr W) rc ra (ks_rr Q) n ka (ks_kn t S mu)))) (by rw [show ks_st P ca = k + 1 by omega]) ?_
                refine g_widen (k := 3) (n := 66) (by (try dsimp only); omega) (by (try dsimp only); omega) ?_
                refine g_subT (X2 := [(gb, .inr (6, [.ref hb, .ref b, .int (nI dw), .ref gn, .ref gv, .int (nI sd), .ref gk, .ref gr])), (gn, .inl (cQ, 12, .inr (.inr (.inr (.inr (fun i => some (na i))))))), (r_67, .inl (cI, (ks_st P ca + 1), .inl h_67))]) [0, 1, 4] (by decide) rfl ?_
                exact g_aret_x B hr (Or.inr ⟨_, rfl⟩) hlocks (r_67, h_67) (rfl) (⟨fun j hj => by rw [← z1] at hj; rw [hu67.1 j hj]; exact lt_s (p := fun j => upd fm k (nI (ks_ek P ca k)) j = nI (ks_ek P ca j)) (fun a ha => by rw [pk_un (by omega)]; exact i3 a ha) pk_us j hj, by rw [← z1, hu67.2, ← z2, fw_rI hg]⟩) rfl dX6_run_174
            · refine g_aload B dX6_run_93 6 rfl ?_
              refine g_iconst (v := (1 : Int32)) B dX6_run_95 (by decide) ?_
              refine g_iald B hK _ 0 (tl_g1 (i := (ks_nd P ca k)) (by omega)) rfl 1 rfl (by omega) (by omega) (v := nI (P.2.1 (ks_nd P ca k))) (rfl) dX6_run_96 ?_
              refine g_iconst (v := (2 : Int32)) B dX6_run_97 (by decide) ?_
              refine g_ncmp_ne (tgt := 114) B (P.2.1 (ks_nd P ca k)) 2 rfl rfl (by omega) (by omega) dX6_run_98 (by decide) (fun c68 => ?_) (fun c68 => ?_)
              · refine g_iconst (v := (0 : Int32)) B dX6_run_114 (by decide) ?_
                refine g_istore (lv' := [(0, .ref gb), (1, .int (nI ca)), (2, .ref q1), (3, .ref r_2), (4, .int (nI (ks_nd P ca k))), (5, .int (nI k)), (6, .ref (na (ks_nd P ca k))), (7, .int (nI ((ks_dg ca) (P.1 (ks_nd P ca k))))), (8, .int (0 : Int32))]) B dX6_run_115 (by decide) [1, 2, 3, 4, 5, 6, 7, 8, 0] rfl ?_
                have hso : ks_so P (ks_nd P ca k) ca = false := by unfold ks_so; split <;> (try split) <;> simp <;> omega
                refine g_aload_n B dX6_run_117 2 rfl ?_
                refine g_iload B dX6_run_118 5 rfl ?_
                refine g_iload B dX6_run_120 8 rfl ?_
                refine g_if_eq (tgt := 132) B dX6_run_122 (by decide) (fun _ => ?_) (fun c69 => absurd (by decide) c69)
                refine g_iconst (v := (2 : Int32)) B dX6_run_132 (by decide) ?_
                refine g_iload B dX6_run_133 4 rfl ?_
                refine g_imul (v := nI (2 * (ks_nd P ca k))) B dX6_run_135 (pk_mul 2 (ks_nd P ca k)) ?_
                refine g_iconst (v := (1 : Int32)) B dX6_run_136 (by decide) ?_
                refine g_iadd (v := nI ((2 * (ks_nd P ca k)) + 1)) B dX6_run_137 (nI_add (2 * (ks_nd P ca k)) 1) ?_
                refine g_eqi (y := nI (ks_ek P ca k)) (fw_ek0 hso) ?_
                have hg : ks_go P (ks_nd P ca k) = true := ks_go_of i4 c7
                have hek : ks_ek P ca k < 24 := (ks_eg_lt i4).1
                refine g_iast B hK 2 0 rfl rfl k rfl (by omega) (by omega) (f2 := (upd fm k (nI (ks_ek P ca k)))) (rfl) (w2 := ([(gb, .inr (6, [.ref hb, .ref b, .int (nI dw), .ref gn, .ref gv, .int (nI sd), .ref gk, .ref gr])), (gn, .inl (cQ, 12, .inr (.inr (.inr (.inr (fun i => some (na i))))))), (q1, .inl (cI, 31, .inl (upd fm k (nI (ks_ek P ca k))))), (r_2, .inl (cI, 4, .inl (fun i => nI ((ks_dg ca) i))))] ++ (tl_T cI 12 na (ks_nr P) 4 wa (ks_wr W) rc ra (ks_rr Q) n ka (ks_kn t S mu)))) rfl (fun _ h => h) dX6_run_138 ?_
                refine g_iload B dX6_run_139 8 rfl ?_
                refine g_if_eq (tgt := 151) B dX6_run_141 (by decide) (fun _ => ?_) (fun c70 => absurd (by decide) c70)
                refine g_aload B dX6_run_151 6 rfl ?_
                refine g_iconst (v := (4 : Int32)) B dX6_run_153 (by decide) ?_
                refine g_iald B hK _ 0 (tl_g1 (i := (ks_nd P ca k)) (by omega)) rfl 4 rfl (by omega) (by omega) (v := ks_tI (P.2.2.2.1 (2 * (ks_nd P ca k) + 1))) (rfl) dX6_run_154 ?_
                refine g_eqi (y := ks_tI (P.2.2.2.1 (ks_ek P ca k))) (by rw [show ks_ek P ca k = 2 * ks_nd P ca k + 1 from by unfold ks_ek ks_eg; rw [hso]; rfl]) ?_
                refine g_istore (lv' := [(0, .ref gb), (1, .int (nI ca)), (2, .ref q1), (3, .ref r_2), (4, .int (ks_tI (P.2.2.2.1 (ks_ek P ca k)))), (5, .int (nI k)), (6, .ref (na (ks_nd P ca k))), (7, .int (nI ((ks_dg ca) (P.1 (ks_nd P ca k))))), (8, .int (0 : Int32))]) B dX6_run_155 (by decide) [1, 2, 3, 4, 0, 5, 6, 7, 8] rfl ?_
                refine g_iload B dX6_run_157 4 rfl ?_
                refine g_tif_ge (tgt := 175) B dX6_run_159 (by decide) (fun c71 => ?_) (fun c71 => ?_)
                · have e1 := (ks_step hg).1
                  have hn1 : ks_nd P ca (k + 1) < 12 := by rw [e1]; exact c71
                  refine g_eqlv (lv2 := [(0, .ref gb), (1, .int (nI ca)), (2, .ref q1), (3, .ref r_2), (4, .int (nI (ks_nd P ca (k + 1)))), (5, .int (nI k)), (6, .ref (na (ks_nd P ca k))), (7, .int (nI ((ks_dg ca) (P.1 (ks_nd P ca k))))), (8, .int (0 : Int32))]) (by rw [e1, ks_tI_lt c71]) ?_
                  refine g_iinc (lv' := [(0, .ref gb), (1, .int (nI ca)), (2, .ref q1), (3, .ref r_2), (4, .int (nI (ks_nd P ca (k + 1)))), (5, .int (nI (k + 1))), (6, .ref (na (ks_nd P ca k))), (7, .int (nI ((ks_dg ca) (P.1 (ks_nd P ca k))))), (8, .int (0 : Int32))]) B dX6_run_175 5 rfl (nI_1 k) (by decide) [1, 2, 3, 4, 5, 0, 6, 7, 8] rfl ?_
                  refine g_goto (tgt := 16) B dX6_run_178 (by decide) ?_
                  refine g_widen (k := 2) (n := 35) (by (try dsimp only); omega) (by (try dsimp only); omega) ?_
                  exact g_pick [0, 1, 2, 3, 4, 5] rfl (ih16 (k + 1, (upd fm k (nI (ks_ek P ca k)))) (⟨by omega, lt_s i2 hg, lt_s (p := fun j => upd fm k (nI (ks_ek P ca k)) j = nI (ks_ek P ca j)) (fun a ha => by rw [pk_un (by omega)]; exact i3 a ha) pk_us, hn1⟩) (by (try dsimp only); omega))
                · refine g_aload_n B dX6_run_162 2 rfl ?_
                  refine g_iload B dX6_run_163 5 rfl ?_
                  refine g_iconst (v := (1 : Int32)) B dX6_run_165 (by decide) ?_
                  refine g_iadd (v := nI (k + 1)) B dX6_run_166 (nI_add k 1) ?_
                  refine g_aload_n B dX6_run_167 2 rfl ?_
                  refine g_iload B dX6_run_168 5 rfl ?_
                  refine g_iald B hK 2 0 rfl rfl k rfl (by omega) (by omega) (v := nI (ks_ek P ca k)) rfl dX6_run_170 ?_
                  refine g_callU (w2 := (fun (z9 : Nat × (Nat → Int32)) => [(gb, .inr (6, [.ref hb, .ref b, .int (nI dw), .ref gn, .ref gv, .int (nI sd), .ref gk, .ref gr])), (gn, .inl (cQ, 12, .inr (.inr (.inr (.inr (fun i => some (na i))))))), (q1, .inl (cI, 31, .inl (upd fm k (nI (ks_ek P ca k))))), (r_2, .inl (cI, 4, .inl (fun i => nI ((ks_dg ca) i)))), (z9.1, .inl (cI, ((k + 1) + 1), .inl z9.2))])) (g_runS B (b_told l (D := D) (cI := cI) (cL := cL) (cZ := cZ) (cQ := cQ) q1 (k + 1) (ks_ek P ca k) (upd fm k (nI (ks_ek P ca k))) (by first | with_reducible assumption | omega | assumption)) (gPw.pre (av := [.ref q1, .int (nI (k + 1)), .int (nI (ks_ek P ca k))]) (wc := [(q1, .inl (cI, 31, .inl (upd fm k (nI (ks_ek P ca k)))))]) hK hN [2] rfl (by decide)) gX6_run_X6_told rfl kd_X6_told ⟨by decide, by decide⟩ (st := []) rfl (Nat.le_of_ble_eq_true rfl) dX6_run_171 ⟨by (try dsimp only); omega, by (try dsimp only); omega⟩) hA (fun _ h => h) [2] [0, 1, 3] (wr := [(gb, .inr (6, [.ref hb, .ref b, .int (nI dw), .ref gn, .ref gv, .int (nI sd), .ref gk, .ref gr])), (gn, .inl (cQ, 12, .inr (.inr (.inr (.inr (fun i => some (na i))))))), (r_2, .inl (cI, 4, .inl (fun i => nI ((ks_dg ca) i))))]) rfl rfl (by decide) (by decide) [0, 1, 3, 2, 4] (by decide) (fun _ => rfl) (fun u hu => ?_)
                  obtain ⟨r_72, h_72⟩ := u
                  try dsimp only at hu ⊢
                  have hu72 := hu
                  have hnx : ¬ ks_nd P ca (k + 1) < 12 := by rw [(ks_step hg).1]; exact c71
                  obtain ⟨z1, z2, z3⟩ := fw_A (by omega) (lt_s i2 hg) hnx
                  refine g_eqw (w2 := ([(gb, .inr (6, [.ref hb, .ref b, .int (nI dw), .ref gn, .ref gv, .int (nI sd), .ref gk, .ref gr])), (gn, .inl (cQ, 12, .inr (.inr (.inr (.inr (fun i => some (na i))))))), (q1, .inl (cI, 31, .inl (upd fm k (nI (ks_ek P ca k))))), (r_2, .inl (cI, 4, .inl (fun i => nI ((ks_dg ca) i)))), (r_72, .inl (cI, (ks_st P ca + 1), .inl h_72))] ++ (tl_T cI 12 na (ks_nr P) 4 wa (ks_wr W) rc ra (ks_rr Q) n ka (ks_kn t S mu)))) (by rw [show ks_st P ca = k + 1 by omega]) ?_
                  refine g_widen (k := 3) (n := 66) (by (try dsimp only); omega) (by (try dsimp only); omega) ?_
                  refine g_subT (X2 := [(gb, .inr (6, [.ref hb, .ref b, .int (nI dw), .ref gn, .ref gv, .int (nI sd), .ref gk, .ref gr])), (gn, .inl (cQ, 12, .inr (.inr (.inr (.inr (fun i => some (na i))))))), (r_72, .inl (cI, (ks_st P ca + 1), .inl h_72))]) [0, 1, 4] (by decide) rfl ?_
                  exact g_aret_x B hr (Or.inr ⟨_, rfl⟩) hlocks (r_72, h_72) (rfl) (⟨fun j hj => by rw [← z1] at hj; rw [hu72.1 j hj]; exact lt_s (p := fun j => upd fm k (nI (ks_ek P ca k)) j = nI (ks_ek P ca j)) (fun a ha => by rw [pk_un (by omega)]; exact i3 a ha) pk_us j hj, by rw [← z1, hu72.2, ← z2, fw_rI hg]⟩) rfl dX6_run_174
              · refine g_iload B dX6_run_101 7 rfl ?_
                refine g_aload B dX6_run_103 6 rfl ?_
                refine g_iconst (v := (2 : Int32)) B dX6_run_105 (by decide) ?_
                refine g_iald B hK _ 0 (tl_g1 (i := (ks_nd P ca k)) (by omega)) rfl 2 rfl (by omega) (by omega) (v := nI (P.2.2.1 (ks_nd P ca k))) (rfl) dX6_run_106 ?_
                refine g_ncmp_le (tgt := 114) B ((ks_dg ca) (P.1 (ks_nd P ca k))) (P.2.2.1 (ks_nd P ca k)) rfl rfl (by omega) (by omega) dX6_run_107 (by decide) (fun c73 => ?_) (fun c73 => ?_)
                · refine g_iconst (v := (0 : Int32)) B dX6_run_114 (by decide) ?_
                  refine g_istore (lv' := [(0, .ref gb), (1, .int (nI ca)), (2, .ref q1), (3, .ref r_2), (4, .int (nI (ks_nd P ca k))), (5, .int (nI k)), (6, .ref (na (ks_nd P ca k))), (7, .int (nI ((ks_dg ca) (P.1 (ks_nd P ca k))))), (8, .int (0 : Int32))]) B dX6_run_115 (by decide) [1, 2, 3, 4, 5, 6, 7, 8, 0] rfl ?_
                  have hso : ks_so P (ks_nd P ca k) ca = false := by unfold ks_so; split <;> (try split) <;> simp <;> omega
                  refine g_aload_n B dX6_run_117 2 rfl ?_
                  refine g_iload B dX6_run_118 5 rfl ?_
                  refine g_iload B dX6_run_120 8 rfl ?_
                  refine g_if_eq (tgt := 132) B dX6_run_122 (by decide) (fun _ => ?_) (fun c74 => absurd (by decide) c74)
                  refine g_iconst (v := (2 : Int32)) B dX6_run_132 (by decide) ?_
                  refine g_iload B dX6_run_133 4 rfl ?_
                  refine g_imul (v := nI (2 * (ks_nd P ca k))) B dX6_run_135 (pk_mul 2 (ks_nd P ca k)) ?_
                  refine g_iconst (v := (1 : Int32)) B dX6_run_136 (by decide) ?_
                  refine g_iadd (v := nI ((2 * (ks_nd P ca k)) + 1)) B dX6_run_137 (nI_add (2 * (ks_nd P ca k)) 1) ?_
                  refine g_eqi (y := nI (ks_ek P ca k)) (fw_ek0 hso) ?_
                  have hg : ks_go P (ks_nd P ca k) = true := ks_go_of i4 c7
                  have hek : ks_ek P ca k < 24 := (ks_eg_lt i4).1
                  refine g_iast B hK 2 0 rfl rfl k rfl (by omega) (by omega) (f2 := (upd fm k (nI (ks_ek P ca k)))) (rfl) (w2 := ([(gb, .inr (6, [.ref hb, .ref b, .int (nI dw), .ref gn, .ref gv, .int (nI sd), .ref gk, .ref gr])), (gn, .inl (cQ, 12, .inr (.inr (.inr (.inr (fun i => some (na i))))))), (q1, .inl (cI, 31, .inl (upd fm k (nI (ks_ek P ca k))))), (r_2, .inl (cI, 4, .inl (fun i => nI ((ks_dg ca) i))))] ++ (tl_T cI 12 na (ks_nr P) 4 wa (ks_wr W) rc ra (ks_rr Q) n ka (ks_kn t S mu)))) rfl (fun _ h => h) dX6_run_138 ?_
                  refine g_iload B dX6_run_139 8 rfl ?_
                  refine g_if_eq (tgt := 151) B dX6_run_141 (by decide) (fun _ => ?_) (fun c75 => absurd (by decide) c75)
                  refine g_aload B dX6_run_151 6 rfl ?_
                  refine g_iconst (v := (4 : Int32)) B dX6_run_153 (by decide) ?_
                  refine g_iald B hK _ 0 (tl_g1 (i := (ks_nd P ca k)) (by omega)) rfl 4 rfl (by omega) (by omega) (v := ks_tI (P.2.2.2.1 (2 * (ks_nd P ca k) + 1))) (rfl) dX6_run_154 ?_
                  refine g_eqi (y := ks_tI (P.2.2.2.1 (ks_ek P ca k))) (by rw [show ks_ek P ca k = 2 * ks_nd P ca k + 1 from by unfold ks_ek ks_eg; rw [hso]; rfl]) ?_
                  refine g_istore (lv' := [(0, .ref gb), (1, .int (nI ca)), (2, .ref q1), (3, .ref r_2), (4, .int (ks_tI (P.2.2.2.1 (ks_ek P ca k)))), (5, .int (nI k)), (6, .ref (na (ks_nd P ca k))), (7, .int (nI ((ks_dg ca) (P.1 (ks_nd P ca k))))), (8, .int (0 : Int32))]) B dX6_run_155 (by decide) [1, 2, 3, 4, 0, 5, 6, 7, 8] rfl ?_
                  refine g_iload B dX6_run_157 4 rfl ?_
                  refine g_tif_ge (tgt := 175) B dX6_run_159 (by decide) (fun c76 => ?_) (fun c76 => ?_)
                  · have e1 := (ks_step hg).1
                    have hn1 : ks_nd P ca (k + 1) < 12 := by rw [e1]; exact c76
                    refine g_eqlv (lv2 := [(0, .ref gb), (1, .int (nI ca)), (2, .ref q1), (3, .ref r_2), (4, .int (nI (ks_nd P ca (k + 1)))), (5, .int (nI k)), (6, .ref (na (ks_nd P ca k))), (7, .int (nI ((ks_dg ca) (P.1 (ks_nd P ca k))))), (8, .int (0 : Int32))]) (by rw [e1, ks_tI_lt c76]) ?_
                    refine g_iinc (lv' := [(0, .ref gb), (1, .int (nI ca)), (2, .ref q1), (3, .ref r_2), (4, .int (nI (ks_nd P ca (k + 1)))), (5, .int (nI (k + 1))), (6, .ref (na (ks_nd P ca k))), (7, .int (nI ((ks_dg ca) (P.1 (ks_nd P ca k))))), (8, .int (0 : Int32))]) B dX6_run_175 5 rfl (nI_1 k) (by decide) [1, 2, 3, 4, 5, 0, 6, 7, 8] rfl ?_
                    refine g_goto (tgt := 16) B dX6_run_178 (by decide) ?_
                    refine g_widen (k := 2) (n := 35) (by (try dsimp only); omega) (by (try dsimp only); omega) ?_
                    exact g_pick [0, 1, 2, 3, 4, 5] rfl (ih16 (k + 1, (upd fm k (nI (ks_ek P ca k)))) (⟨by omega, lt_s i2 hg, lt_s (p := fun j => upd fm k (nI (ks_ek P ca k)) j = nI (ks_ek P ca j)) (fun a ha => by rw [pk_un (by omega)]; exact i3 a ha) pk_us, hn1⟩) (by (try dsimp only); omega))
                  · refine g_aload_n B dX6_run_162 2 rfl ?_
                    refine g_iload B dX6_run_163 5 rfl ?_
                    refine g_iconst (v := (1 : Int32)) B dX6_run_165 (by decide) ?_
                    refine g_iadd (v := nI (k + 1)) B dX6_run_166 (nI_add k 1) ?_
                    refine g_aload_n B dX6_run_167 2 rfl ?_
                    refine g_iload B dX6_run_168 5 rfl ?_
                    refine g_iald B hK 2 0 rfl rfl k rfl (by omega) (by omega) (v := nI (ks_ek P ca k)) rfl dX6_run_170 ?_
                    refine g_callU (w2 := (fun (z9 : Nat × (Nat → Int32)) => [(gb, .inr (6, [.ref hb, .ref b, .int (nI dw), .ref gn, .ref gv, .int (nI sd), .ref gk, .ref gr])), (gn, .inl (cQ, 12, .inr (.inr (.inr (.inr (fun i => some (na i))))))), (q1, .inl (cI, 31, .inl (upd fm k (nI (ks_ek P ca k))))), (r_2, .inl (cI, 4, .inl (fun i => nI ((ks_dg ca) i)))), (z9.1, .inl (cI, ((k + 1) + 1), .inl z9.2))])) (g_runS B (b_told l (D := D) (cI := cI) (cL := cL) (cZ := cZ) (cQ := cQ) q1 (k + 1) (ks_ek P ca k) (upd fm k (nI (ks_ek P ca k))) (by first | with_reducible assumption | omega | assumption)) (gPw.pre (av := [.ref q1, .int (nI (k + 1)), .int (nI (ks_ek P ca k))]) (wc := [(q1, .inl (cI, 31, .inl (upd fm k (nI (ks_ek P ca k)))))]) hK hN [2] rfl (by decide)) gX6_run_X6_told rfl kd_X6_told ⟨by decide, by decide⟩ (st := []) rfl (Nat.le_of_ble_eq_true rfl) dX6_run_171 ⟨by (try dsimp only); omega, by (try dsimp only); omega⟩) hA (fun _ h => h) [2] [0, 1, 3] (wr := [(gb, .inr (6, [.ref hb, .ref b, .int (nI dw), .ref gn, .ref gv, .int (nI sd), .ref gk, .ref gr])), (gn, .inl (cQ, 12, .inr (.inr (.inr (.inr (fun i => some (na i))))))), (r_2, .inl (cI, 4, .inl (fun i => nI ((ks_dg ca) i))))]) rfl rfl (by decide) (by decide) [0, 1, 3, 2, 4] (by decide) (fun _ => rfl) (fun u hu => ?_)
                    obtain ⟨r_77, h_77⟩ := u
                    try dsimp only at hu ⊢
                    have hu77 := hu
                    have hnx : ¬ ks_nd P ca (k + 1) < 12 := by rw [(ks_step hg).1]; exact c76
                    obtain ⟨z1, z2, z3⟩ := fw_A (by omega) (lt_s i2 hg) hnx
                    refine g_eqw (w2 := ([(gb, .inr (6, [.ref hb, .ref b, .int (nI dw), .ref gn, .ref gv, .int (nI sd), .ref gk, .ref gr])), (gn, .inl (cQ, 12, .inr (.inr (.inr (.inr (fun i => some (na i))))))), (q1, .inl (cI, 31, .inl (upd fm k (nI (ks_ek P ca k))))), (r_2, .inl (cI, 4, .inl (fun i => nI ((ks_dg ca) i)))), (r_77, .inl (cI, (ks_st P ca + 1), .inl h_77))] ++ (tl_T cI 12 na (ks_nr P) 4 wa (ks_wr W) rc ra (ks_rr Q) n ka (ks_kn t S mu)))) (by rw [show ks_st P ca = k + 1 by omega]) ?_
                    refine g_widen (k := 3) (n := 66) (by (try dsimp only); omega) (by (try dsimp only); omega) ?_
                    refine g_subT (X2 := [(gb, .inr (6, [.ref hb, .ref b, .int (nI dw), .ref gn, .ref gv, .int (nI sd), .ref gk, .ref gr])), (gn, .inl (cQ, 12, .inr (.inr (.inr (.inr (fun i => some (na i))))))), (r_77, .inl (cI, (ks_st P ca + 1), .inl h_77))]) [0, 1, 4] (by decide) rfl ?_
                    exact g_aret_x B hr (Or.inr ⟨_, rfl⟩) hlocks (r_77, h_77) (rfl) (⟨fun j hj => by rw [← z1] at hj; rw [hu77.1 j hj]; exact lt_s (p := fun j => upd fm k (nI (ks_ek P ca k)) j = nI (ks_ek P ca j)) (fun a ha => by rw [pk_un (by omega)]; exact i3 a ha) pk_us j hj, by rw [← z1, hu77.2, ← z2, fw_rI hg]⟩) rfl dX6_run_174
                · refine g_iconst (v := (1 : Int32)) B dX6_run_110 (by decide) ?_
                  refine g_goto (tgt := 115) B dX6_run_111 (by decide) ?_
                  refine g_istore (lv' := [(0, .ref gb), (1, .int (nI ca)), (2, .ref q1), (3, .ref r_2), (4, .int (nI (ks_nd P ca k))), (5, .int (nI k)), (6, .ref (na (ks_nd P ca k))), (7, .int (nI ((ks_dg ca) (P.1 (ks_nd P ca k))))), (8, .int (1 : Int32))]) B dX6_run_115 (by decide) [1, 2, 3, 4, 5, 6, 7, 8, 0] rfl ?_
                  have hso : ks_so P (ks_nd P ca k) ca = true := by unfold ks_so; split <;> (try split) <;> simp <;> omega
                  refine g_aload_n B dX6_run_117 2 rfl ?_
                  refine g_iload B dX6_run_118 5 rfl ?_
                  refine g_iload B dX6_run_120 8 rfl ?_
                  refine g_if_eq (tgt := 132) B dX6_run_122 (by decide) (fun c78 => absurd c78 (by decide)) (fun _ => ?_)
                  refine g_iconst (v := (2 : Int32)) B dX6_run_125 (by decide) ?_
                  refine g_iload B dX6_run_126 4 rfl ?_
                  refine g_imul (v := nI (2 * (ks_nd P ca k))) B dX6_run_128 (pk_mul 2 (ks_nd P ca k)) ?_
                  refine g_goto (tgt := 138) B dX6_run_129 (by decide) ?_
                  refine g_eqi (y := nI (ks_ek P ca k)) (fw_ek1 hso) ?_
                  have hg : ks_go P (ks_nd P ca k) = true := ks_go_of i4 c7
                  have hek : ks_ek P ca k < 24 := (ks_eg_lt i4).1
                  refine g_iast B hK 2 0 rfl rfl k rfl (by omega) (by omega) (f2 := (upd fm k (nI (ks_ek P ca k)))) (rfl) (w2 := ([(gb, .inr (6, [.ref hb, .ref b, .int (nI dw), .ref gn, .ref gv, .int (nI sd), .ref gk, .ref gr])), (gn, .inl (cQ, 12, .inr (.inr (.inr (.inr (fun i => some (na i))))))), (q1, .inl (cI, 31, .inl (upd fm k (nI (ks_ek P ca k))))), (r_2, .inl (cI, 4, .inl (fun i => nI ((ks_dg ca) i))))] ++ (tl_T cI 12 na (ks_nr P) 4 wa (ks_wr W) rc ra (ks_rr Q) n ka (ks_kn t S mu)))) rfl (fun _ h => h) dX6_run_138 ?_
                  refine g_iload B dX6_run_139 8 rfl ?_
                  refine g_if_eq (tgt := 151) B dX6_run_141 (by decide) (fun c79 => absurd c79 (by decide)) (fun _ => ?_)
                  refine g_aload B dX6_run_144 6 rfl ?_
                  refine g_iconst (v := (3 : Int32)) B dX6_run_146 (by decide) ?_
                  refine g_iald B hK _ 0 (tl_g1 (i := (ks_nd P ca k)) (by omega)) rfl 3 rfl (by omega) (by omega) (v := ks_tI (P.2.2.2.1 (2 * (ks_nd P ca k)))) (rfl) dX6_run_147 ?_
                  refine g_goto (tgt := 155) B dX6_run_148 (by decide) ?_
                  refine g_eqi (y := ks_tI (P.2.2.2.1 (ks_ek P ca k))) (by rw [show ks_ek P ca k = 2 * ks_nd P ca k from by unfold ks_ek ks_eg; rw [hso]; rfl]) ?_
                  refine g_istore (lv' := [(0, .ref gb), (1, .int (nI ca)), (2, .ref q1), (3, .ref r_2), (4, .int (ks_tI (P.2.2.2.1 (ks_ek P ca k)))), (5, .int (nI k)), (6, .ref (na (ks_nd P ca k))), (7, .int (nI ((ks_dg ca) (P.1 (ks_nd P ca k))))), (8, .int (1 : Int32))]) B dX6_run_155 (by decide) [1, 2, 3, 4, 0, 5, 6, 7, 8] rfl ?_
                  refine g_iload B dX6_run_157 4 rfl ?_
                  refine g_tif_ge (tgt := 175) B dX6_run_159 (by decide) (fun c80 => ?_) (fun c80 => ?_)
                  · have e1 := (ks_step hg).1
                    have hn1 : ks_nd P ca (k + 1) < 12 := by rw [e1]; exact c80
                    refine g_eqlv (lv2 := [(0, .ref gb), (1, .int (nI ca)), (2, .ref q1), (3, .ref r_2), (4, .int (nI (ks_nd P ca (k + 1)))), (5, .int (nI k)), (6, .ref (na (ks_nd P ca k))), (7, .int (nI ((ks_dg ca) (P.1 (ks_nd P ca k))))), (8, .int (1 : Int32))]) (by rw [e1, ks_tI_lt c80]) ?_
                    refine g_iinc (lv' := [(0, .ref gb), (1, .int (nI ca)), (2, .ref q1), (3, .ref r_2), (4, .int (nI (ks_nd P ca (k + 1)))), (5, .int (nI (k + 1))), (6, .ref (na (ks_nd P ca k))), (7, .int (nI ((ks_dg ca) (P.1 (ks_nd P ca k))))), (8, .int (1 : Int32))]) B dX6_run_175 5 rfl (nI_1 k) (by decide) [1, 2, 3, 4, 5, 0, 6, 7, 8] rfl ?_
                    refine g_goto (tgt := 16) B dX6_run_178 (by decide) ?_
                    refine g_widen (k := 2) (n := 35) (by (try dsimp only); omega) (by (try dsimp only); omega) ?_
                    exact g_pick [0, 1, 2, 3, 4, 5] rfl (ih16 (k + 1, (upd fm k (nI (ks_ek P ca k)))) (⟨by omega, lt_s i2 hg, lt_s (p := fun j => upd fm k (nI (ks_ek P ca k)) j = nI (ks_ek P ca j)) (fun a ha => by rw [pk_un (by omega)]; exact i3 a ha) pk_us, hn1⟩) (by (try dsimp only); omega))
                  · refine g_aload_n B dX6_run_162 2 rfl ?_
                    refine g_iload B dX6_run_163 5 rfl ?_
                    refine g_iconst (v := (1 : Int32)) B dX6_run_165 (by decide) ?_
                    refine g_iadd (v := nI (k + 1)) B dX6_run_166 (nI_add k 1) ?_
                    refine g_aload_n B dX6_run_167 2 rfl ?_
                    refine g_iload B dX6_run_168 5 rfl ?_
                    refine g_iald B hK 2 0 rfl rfl k rfl (by omega) (by omega) (v := nI (ks_ek P ca k)) rfl dX6_run_170 ?_
                    refine g_callU (w2 := (fun (z9 : Nat × (Nat → Int32)) => [(gb, .inr (6, [.ref hb, .ref b, .int (nI dw), .ref gn, .ref gv, .int (nI sd), .ref gk, .ref gr])), (gn, .inl (cQ, 12, .inr (.inr (.inr (.inr (fun i => some (na i))))))), (q1, .inl (cI, 31, .inl (upd fm k (nI (ks_ek P ca k))))), (r_2, .inl (cI, 4, .inl (fun i => nI ((ks_dg ca) i)))), (z9.1, .inl (cI, ((k + 1) + 1), .inl z9.2))])) (g_runS B (b_told l (D := D) (cI := cI) (cL := cL) (cZ := cZ) (cQ := cQ) q1 (k + 1) (ks_ek P ca k) (upd fm k (nI (ks_ek P ca k))) (by first | with_reducible assumption | omega | assumption)) (gPw.pre (av := [.ref q1, .int (nI (k + 1)), .int (nI (ks_ek P ca k))]) (wc := [(q1, .inl (cI, 31, .inl (upd fm k (nI (ks_ek P ca k)))))]) hK hN [2] rfl (by decide)) gX6_run_X6_told rfl kd_X6_told ⟨by decide, by decide⟩ (st := []) rfl (Nat.le_of_ble_eq_true rfl) dX6_run_171 ⟨by (try dsimp only); omega, by (try dsimp only); omega⟩) hA (fun _ h => h) [2] [0, 1, 3] (wr := [(gb, .inr (6, [.ref hb, .ref b, .int (nI dw), .ref gn, .ref gv, .int (nI sd), .ref gk, .ref gr])), (gn, .inl (cQ, 12, .inr (.inr (.inr (.inr (fun i => some (na i))))))), (r_2, .inl (cI, 4, .inl (fun i => nI ((ks_dg ca) i))))]) rfl rfl (by decide) (by decide) [0, 1, 3, 2, 4] (by decide) (fun _ => rfl) (fun u hu => ?_)
                    obtain ⟨r_81, h_81⟩ := u
                    try dsimp only at hu ⊢
                    have hu81 := hu
                    have hnx : ¬ ks_nd P ca (k + 1) < 12 := by rw [(ks_step hg).1]; exact c80
                    obtain ⟨z1, z2, z3⟩ := fw_A (by omega) (lt_s i2 hg) hnx
                    refine g_eqw (w2 := ([(gb, .inr (6, [.ref hb, .ref b, .int (nI dw), .ref gn, .ref gv, .int (nI sd), .ref gk, .ref gr])), (gn, .inl (cQ, 12, .inr (.inr (.inr (.inr (fun i => some (na i))))))), (q1, .inl (cI, 31, .inl (upd fm k (nI (ks_ek P ca k))))), (r_2, .inl (cI, 4, .inl (fun i => nI ((ks_dg ca) i)))), (r_81, .inl (cI, (ks_st P ca + 1), .inl h_81))] ++ (tl_T cI 12 na (ks_nr P) 4 wa (ks_wr W) rc ra (ks_rr Q) n ka (ks_kn t S mu)))) (by rw [show ks_st P ca = k + 1 by omega]) ?_
                    refine g_widen (k := 3) (n := 66) (by (try dsimp only); omega) (by (try dsimp only); omega) ?_
                    refine g_subT (X2 := [(gb, .inr (6, [.ref hb, .ref b, .int (nI dw), .ref gn, .ref gv, .int (nI sd), .ref gk, .ref gr])), (gn, .inl (cQ, 12, .inr (.inr (.inr (.inr (fun i => some (na i))))))), (r_81, .inl (cI, (ks_st P ca + 1), .inl h_81))]) [0, 1, 4] (by decide) rfl ?_
                    exact g_aret_x B hr (Or.inr ⟨_, rfl⟩) hlocks (r_81, h_81) (rfl) (⟨fun j hj => by rw [← z1] at hj; rw [hu81.1 j hj]; exact lt_s (p := fun j => upd fm k (nI (ks_ek P ca k)) j = nI (ks_ek P ca j)) (fun a ha => by rw [pk_un (by omega)]; exact i3 a ha) pk_us j hj, by rw [← z1, hu81.2, ← z2, fw_rI hg]⟩) rfl dX6_run_174
    · refine g_aload_n B dX6_run_40 2 rfl ?_
      refine g_iload B dX6_run_41 5 rfl ?_
      refine g_bipush (v := (100 : Int32)) B dX6_run_43 (by decide) ?_
      refine g_iload B dX6_run_45 4 rfl ?_
      refine g_iadd (v := nI (100 + (ks_nd P ca k))) B dX6_run_47 (nI_add 100 (ks_nd P ca k)) ?_
      refine g_callU (w2 := (fun (z9 : Nat × (Nat → Int32)) => [(gb, .inr (6, [.ref hb, .ref b, .int (nI dw), .ref gn, .ref gv, .int (nI sd), .ref gk, .ref gr])), (gn, .inl (cQ, 12, .inr (.inr (.inr (.inr (fun i => some (na i))))))), (q1, .inl (cI, 31, .inl fm)), (r_2, .inl (cI, 4, .inl (fun i => nI ((ks_dg ca) i)))), (z9.1, .inl (cI, (k + 1), .inl z9.2))])) (g_runS B (b_told l (D := D) (cI := cI) (cL := cL) (cZ := cZ) (cQ := cQ) q1 k (100 + (ks_nd P ca k)) fm (by first | with_reducible assumption | omega | assumption)) (gPw.pre (av := [.ref q1, .int (nI k), .int (nI (100 + (ks_nd P ca k)))]) (wc := [(q1, .inl (cI, 31, .inl fm))]) hK hN [2] rfl (by decide)) gX6_run_X6_told rfl kd_X6_told ⟨by decide, by decide⟩ (st := []) rfl (Nat.le_of_ble_eq_true rfl) dX6_run_48 ⟨by (try dsimp only); omega, by (try dsimp only); omega⟩) hA (fun _ h => h) [2] [0, 1, 3] (wr := [(gb, .inr (6, [.ref hb, .ref b, .int (nI dw), .ref gn, .ref gv, .int (nI sd), .ref gk, .ref gr])), (gn, .inl (cQ, 12, .inr (.inr (.inr (.inr (fun i => some (na i))))))), (r_2, .inl (cI, 4, .inl (fun i => nI ((ks_dg ca) i))))]) rfl rfl (by decide) (by decide) [0, 1, 3, 2, 4] (by decide) (fun _ => rfl) (fun u hu => ?_)
      obtain ⟨r_82, h_82⟩ := u
      try dsimp only at hu ⊢
      have hu82 := hu
      obtain ⟨z1, z2, z3⟩ := fw_B i1 i2 i4 c7
      refine g_eqw (w2 := ([(gb, .inr (6, [.ref hb, .ref b, .int (nI dw), .ref gn, .ref gv, .int (nI sd), .ref gk, .ref gr])), (gn, .inl (cQ, 12, .inr (.inr (.inr (.inr (fun i => some (na i))))))), (q1, .inl (cI, 31, .inl fm)), (r_2, .inl (cI, 4, .inl (fun i => nI ((ks_dg ca) i)))), (r_82, .inl (cI, (ks_st P ca + 1), .inl h_82))] ++ (tl_T cI 12 na (ks_nr P) 4 wa (ks_wr W) rc ra (ks_rr Q) n ka (ks_kn t S mu)))) (by rw [show ks_st P ca = k by omega]) ?_
      refine g_widen (k := 3) (n := 66) (by (try dsimp only); omega) (by (try dsimp only); omega) ?_
      refine g_subT (X2 := [(gb, .inr (6, [.ref hb, .ref b, .int (nI dw), .ref gn, .ref gv, .int (nI sd), .ref gk, .ref gr])), (gn, .inl (cQ, 12, .inr (.inr (.inr (.inr (fun i => some (na i))))))), (r_82, .inl (cI, (ks_st P ca + 1), .inl h_82))]) [0, 1, 4] (by decide) rfl ?_
      exact g_aret_x B hr (Or.inr ⟨_, rfl⟩) hlocks (r_82, h_82) (rfl) (⟨fun j hj => by rw [← z1] at hj; rw [hu82.1 j hj]; exact i3 j hj, by rw [← z1, hu82.2, z2]⟩) rfl dX6_run_51

