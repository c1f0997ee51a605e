set_option maxHeartbeats 400000 in
set_option maxRecDepth 100000 in
theorem b_run (l : Launch) {D : va_G} {cI cL cZ cQ : ClassId} (gb : Nat) (gn : Nat) (gv : Nat) (gk : Nat) (gr : Nat) (hb : Nat) (b : Nat) (dw : Nat) (sd : Nat) (na : Nat → Nat) (wa : Nat → Nat) (ra : Nat → Nat) (ka : Nat → Nat) (P : Pg) (W : Wg) (Q : Rg) (rc : Nat) (t : Nat → Nat) (n : Nat) (S : Int64) (mu : Nat → Nat) (ca : Nat) (hW : ks_WP P) (hca : ca < 10000) : WM l yX6_run wsX6_run ({ frames := 2, cells := 3, slots := 66, locals := 83 } : Room) D (gTys cI cL cZ cQ) [.ref gb, .int (nI ca)] ([(gb, .inr (6, [.ref hb, .ref b, .int (nI dw), .ref gn, .ref gv, .int (nI sd), .ref gk, .ref gr])), (gn, .inl (cQ, 12, .inr (.inr (.inr (.inr (fun i => some (na i)))))))] ++ (tl_T cI 12 na (ks_nr P) 4 wa (ks_wr W) rc ra (ks_rr Q) n ka (ks_kn t S mu))) (fun (q : Nat × (Nat → Int32)) => (∀ j, j < ks_st P ca → q.2 j = nI (ks_ek P ca j)) ∧ q.2 (ks_st P ca) = nI (ks_rs P ca)) (fun (q : Nat × (Nat → Int32)) => some (.ref q.1)) (fun (q : Nat × (Nat → Int32)) => ([(gb, .inr (6, [.ref hb, .ref b, .int (nI dw), .ref gn, .ref gv, .int (nI sd), .ref gk, .ref gr])), (gn, .inl (cQ, 12, .inr (.inr (.inr (.inr (fun i => some (na i))))))), (q.1, .inl (cI, (ks_st P ca + 1), .inl q.2))] ++ (tl_T cI 12 na (ks_nr P) 4 wa (ks_wr W) rc ra (ks_rr Q) n ka (ks_kn t S mu)))) := by
  refine WM.ofG cX6_run 9 (some (.array .int)) (by decide +kernel) rfl (Nat.le_of_ble_eq_true rfl) ?_
  intro p e s m below meth c A hA B hr hlocks hname hK hN
  refine g_bipush (v := (31 : Int32)) B dX6_run_0 (by decide) ?_
  refine g_newa B hK hA 0 rfl rfl (List.mem_of_getElem? (i := 1) rfl) rfl (31, .inl (fun _ => (0 : Int32))) (cellI_new 31) (by decide) (by decide) (by decide) (by decide) (by decide) dX6_run_2 (fun q1 => ?_)
  refine g_perm (tl_sw _ _ _) ?_
  refine g_eqw (w2 := ([(gb, .inr (6, [.ref hb, .ref b, .int (nI dw), .ref gn, .ref gv, .int (nI sd), .ref gk, .ref gr])), (gn, .inl (cQ, 12, .inr (.inr (.inr (.inr (fun i => some (na i))))))), (q1, .inl (cI, 31, .inl (fun _ => (0 : Int32))))] ++ (tl_T cI 12 na (ks_nr P) 4 wa (ks_wr W) rc ra (ks_rr Q) n ka (ks_kn t S mu)))) rfl ?_
  refine g_astore_n (lv' := [(0, .ref gb), (1, .int (nI ca)), (2, .ref q1)]) B dX6_run_4 rfl (by decide) [1, 2, 0] rfl ?_
  refine g_iload_n B dX6_run_5 1 rfl ?_
  refine g_callU (w2 := (fun (r_2 : Nat) => [(gb, .inr (6, [.ref hb, .ref b, .int (nI dw), .ref gn, .ref gv, .int (nI sd), .ref gk, .ref gr])), (gn, .inl (cQ, 12, .inr (.inr (.inr (.inr (fun i => some (na i))))))), (q1, .inl (cI, 31, .inl (fun _ => (0 : Int32)))), (r_2, .inl (cI, 4, .inl (fun i => nI ((ks_dg ca) i))))])) (g_runS B (b_slots l (D := D) (cI := cI) (cL := cL) (cZ := cZ) (cQ := cQ) ca (by first | with_reducible assumption | omega | assumption)) (gPw.pre (av := [.int (nI ca)]) (wc := []) hK hN [] rfl (by decide)) gX6_run_X6_slots rfl kd_X6_slots ⟨by decide, by decide⟩ (st := []) rfl (Nat.le_of_ble_eq_true rfl) dX6_run_6 ⟨by decide, by decide⟩) hA (fun _ h => h) [] [0, 1, 2] (wr := [(gb, .inr (6, [.ref hb, .ref b, .int (nI dw), .ref gn, .ref gv, .int (nI sd), .ref gk, .ref gr])), (gn, .inl (cQ, 12, .inr (.inr (.inr (.inr (fun i => some (na i))))))), (q1, .inl (cI, 31, .inl (fun _ => (0 : Int32))))]) rfl rfl (by decide) (by decide) [0, 1, 2, 3] (by decide) (fun _ => rfl) (fun u hu => ?_)
  obtain ⟨r_2, e9⟩ : ∃ z, z = u := ⟨_, rfl⟩; subst e9
  try dsimp only at hu ⊢
  refine g_astore_n (lv' := [(0, .ref gb), (1, .int (nI ca)), (2, .ref q1), (3, .ref r_2)]) B dX6_run_9 rfl (by decide) [1, 2, 3, 0] rfl ?_
  refine g_iconst (v := (0 : Int32)) B dX6_run_10 (by decide) ?_
  refine g_istore (lv' := [(0, .ref gb), (1, .int (nI ca)), (2, .ref q1), (3, .ref r_2), (4, .int (0 : Int32))]) B dX6_run_11 (by decide) [1, 2, 3, 4, 0] rfl ?_
  refine g_iconst (v := (0 : Int32)) B dX6_run_13 (by decide) ?_
  refine g_istore (lv' := [(0, .ref gb), (1, .int (nI ca)), (2, .ref q1), (3, .ref r_2), (4, .int (0 : Int32)), (5, .int (0 : Int32))]) B dX6_run_14 (by decide) [1, 2, 3, 4, 5, 0] rfl ?_
  refine g_widen (k := 2) (n := 35) (by (try dsimp only); omega) (by (try dsimp only); omega) ?_
  refine g_loop (σ := Nat × (Nat → Int32)) (fun x9 => x9.1 ≤ 30 ∧ (∀ j, j < x9.1 → ks_go P (ks_nd P ca j) = true) ∧ (∀ j, j < x9.1 → x9.2 j = nI (ks_ek P ca j)) ∧ ks_nd P ca x9.1 < 12) (fun x9 => 31 - x9.1) (fun x9 => 2) (fun x9 => 35) (fun x9 => ([(gb, .inr (6, [.ref hb, .ref b, .int (nI dw), .ref gn, .ref gv, .int (nI sd), .ref gk, .ref gr])), (gn, .inl (cQ, 12, .inr (.inr (.inr (.inr (fun i => some (na i))))))), (q1, .inl (cI, 31, .inl x9.2)), (r_2, .inl (cI, 4, .inl (fun i => nI ((ks_dg ca) i))))] ++ (tl_T cI 12 na (ks_nr P) 4 wa (ks_wr W) rc ra (ks_rr Q) n ka (ks_kn t S mu)))) (fun x9 => [(0, .ref gb), (1, .int (nI ca)), (2, .ref q1), (3, .ref r_2), (4, .int (nI (ks_nd P ca x9.1))), (5, .int (nI x9.1))]) (fun x9 hI ih16 => ?_) (0, (fun _ => (0 : Int32))) (by (try dsimp only); exact ⟨by omega, fun j h => absurd h (Nat.not_lt_zero j), fun j h => absurd h (Nat.not_lt_zero j), by show (0 : Nat) < 12; omega⟩) rfl rfl (by (try dsimp only) <;> rfl) (by (try dsimp only) <;> rfl)
  obtain ⟨k, fm⟩ := x9
  try dsimp only at hI ih16 ⊢
  obtain ⟨i1, i2, i3, i4⟩ := hI
  have v0 := hW.1 _ i4
  have v1 := hW.2.1 _ i4
  have v2 := hW.2.2.1 _ i4
  have v3 := ks_dg_lt ca (P.1 (ks_nd P ca k))
  refine g_iload B dX6_run_16 5 rfl ?_
  refine g_bipush (v := (30 : Int32)) B dX6_run_18 (by decide) ?_
  refine g_ncmp_ge (tgt := 181) B k 30 rfl rfl (by omega) (by omega) dX6_run_20 (by decide) (fun c4 => ?_) (fun c4 => ?_)
  · refine g_aload_n B dX6_run_181 2 rfl ?_
    refine g_bipush (v := (30 : Int32)) B dX6_run_182 (by decide) ?_
    refine g_aload_n B dX6_run_184 0 rfl ?_
    refine g_get (C := RX6) (T := TX6) (N := 8) (ci := 6) B hK hin_X6_run_RX6 0 rfl rfl 3 (by decide) (List.mem_of_getElem? (i := 2) rfl) rfl (v := .ref gn) rfl dX6_run_185 ?_
    refine g_iload B dX6_run_188 4 rfl ?_
    refine g_qald B hK 1 3 rfl rfl (ks_nd P ca k) rfl (by omega) (by omega) (r := (na (ks_nd P ca k))) rfl dX6_run_190 ?_
    refine g_iconst (v := (5 : Int32)) B dX6_run_191 (by decide) ?_
    refine g_iald B hK _ 0 (tl_g1 (i := (ks_nd P ca k)) (by omega)) rfl 5 rfl (by omega) (by omega) (v := bI (P.2.2.2.2 (ks_nd P ca k))) (rfl) dX6_run_192 ?_
    refine g_iconst (v := (1 : Int32)) B dX6_run_193 (by decide) ?_
    refine g_bcmp_ne (tgt := 205) B dX6_run_194 (by decide) (fun c5 => ?_) (fun c5 => ?_)
    · refine g_bipush (v := (112 : Int32)) B dX6_run_205 (by decide) ?_
      refine g_callU (w2 := (fun (z9 : Nat × (Nat → Int32)) => [(gb, .inr (6, [.ref hb, .ref b, .int (nI dw), .ref gn, .ref gv, .int (nI sd), .ref gk, .ref gr])), (gn, .inl (cQ, 12, .inr (.inr (.inr (.inr (fun i => some (na i))))))), (q1, .inl (cI, 31, .inl fm)), (r_2, .inl (cI, 4, .inl (fun i => nI ((ks_dg ca) i)))), (z9.1, .inl (cI, (30 + 1), .inl z9.2))])) (g_runS B (b_told l (D := D) (cI := cI) (cL := cL) (cZ := cZ) (cQ := cQ) q1 30 112 fm (by first | with_reducible assumption | omega | assumption)) (gPw.pre (av := [.ref q1, .int (30 : Int32), .int (112 : Int32)]) (wc := [(q1, .inl (cI, 31, .inl fm))]) hK hN [2] rfl (by decide)) gX6_run_X6_told rfl kd_X6_told ⟨by decide, by decide⟩ (st := []) rfl (Nat.le_of_ble_eq_true rfl) dX6_run_207 ⟨by (try dsimp only); omega, by (try dsimp only); omega⟩) hA (fun _ h => h) [2] [0, 1, 3] (wr := [(gb, .inr (6, [.ref hb, .ref b, .int (nI dw), .ref gn, .ref gv, .int (nI sd), .ref gk, .ref gr])), (gn, .inl (cQ, 12, .inr (.inr (.inr (.inr (fun i => some (na i))))))), (r_2, .inl (cI, 4, .inl (fun i => nI ((ks_dg ca) i))))]) rfl rfl (by decide) (by decide) [0, 1, 3, 2, 4] (by decide) (fun _ => rfl) (fun u hu => ?_)
      obtain ⟨r_6, h_6⟩ := u
      try dsimp only at hu ⊢
      have hu6 := hu
      have hk30 : k = 30 := by omega
      obtain ⟨z1, z2, z3⟩ := fw_C hk30 i2 i4 c5
      refine g_eqw (w2 := ([(gb, .inr (6, [.ref hb, .ref b, .int (nI dw), .ref gn, .ref gv, .int (nI sd), .ref gk, .ref gr])), (gn, .inl (cQ, 12, .inr (.inr (.inr (.inr (fun i => some (na i))))))), (q1, .inl (cI, 31, .inl fm)), (r_2, .inl (cI, 4, .inl (fun i => nI ((ks_dg ca) i)))), (r_6, .inl (cI, (ks_st P ca + 1), .inl h_6))] ++ (tl_T cI 12 na (ks_nr P) 4 wa (ks_wr W) rc ra (ks_rr Q) n ka (ks_kn t S mu)))) (by rw [show ks_st P ca = 30 by omega]) ?_
      refine g_widen (k := 3) (n := 66) (by (try dsimp only); omega) (by (try dsimp only); omega) ?_
      refine g_subT (X2 := [(gb, .inr (6, [.ref hb, .ref b, .int (nI dw), .ref gn, .ref gv, .int (nI sd), .ref gk, .ref gr])), (gn, .inl (cQ, 12, .inr (.inr (.inr (.inr (fun i => some (na i))))))), (r_6, .inl (cI, (ks_st P ca + 1), .inl h_6))]) [0, 1, 4] (by decide) rfl ?_
      exact g_aret_x B hr (Or.inr ⟨_, rfl⟩) hlocks (r_6, h_6) (rfl) (by (try dsimp only); exact ⟨fun j hj => by rw [hu6.1 j (by omega)]; exact i3 j (by omega), by rw [show ks_st P ca = 30 by omega, hu6.2, ← z2]⟩) (by (try dsimp only) <;> rfl) dX6_run_210
    · refine g_bipush (v := (100 : Int32)) B dX6_run_197 (by decide) ?_
      refine g_iload B dX6_run_199 4 rfl ?_
      refine g_iadd (v := nI (100 + (ks_nd P ca k))) B dX6_run_201 (nI_add 100 (ks_nd P ca k)) ?_
      refine g_goto (tgt := 207) B dX6_run_202 (by decide) ?_
      refine g_callU (w2 := (fun (z9 : Nat × (Nat → Int32)) => [(gb, .inr (6, [.ref hb, .ref b, .int (nI dw), .ref gn, .ref gv, .int (nI sd), .ref gk, .ref gr])), (gn, .inl (cQ, 12, .inr (.inr (.inr (.inr (fun i => some (na i))))))), (q1, .inl (cI, 31, .inl fm)), (r_2, .inl (cI, 4, .inl (fun i => nI ((ks_dg ca) i)))), (z9.1, .inl (cI, (30 + 1), .inl z9.2))])) (g_runS B (b_told l (D := D) (cI := cI) (cL := cL) (cZ := cZ) (cQ := cQ) q1 30 (100 + (ks_nd P ca k)) fm (by first | with_reducible assumption | omega | assumption)) (gPw.pre (av := [.ref q1, .int (30 : Int32), .int (nI (100 + (ks_nd P ca k)))]) (wc := [(q1, .inl (cI, 31, .inl fm))]) hK hN [2] rfl (by decide)) gX6_run_X6_told rfl kd_X6_told ⟨by decide, by decide⟩ (st := []) rfl (Nat.le_of_ble_eq_true rfl) dX6_run_207 ⟨by (try dsimp only); omega, by (try dsimp only); omega⟩) hA (fun _ h => h) [2] [0, 1, 3] (wr := [(gb, .inr (6, [.ref hb, .ref b, .int (nI dw), .ref gn, .ref gv, .int (nI sd), .ref gk, .ref gr])), (gn, .inl (cQ, 12, .inr (.inr (.inr (.inr (fun i => some (na i))))))), (r_2, .inl (cI, 4, .inl (fun i => nI ((ks_dg ca) i))))]) rfl rfl (by decide) (by decide) [0, 1, 3, 2, 4] (by decide) (fun _ => rfl) (fun u hu => ?_)
      obtain ⟨r_7, h_7⟩ := u
      try dsimp only at hu ⊢
      have hu7 := hu
      have hk30 : k = 30 := by omega
      obtain ⟨z1, z2, z3⟩ := fw_B i1 i2 i4 c5
      refine g_eqw (w2 := ([(gb, .inr (6, [.ref hb, .ref b, .int (nI dw), .ref gn, .ref gv, .int (nI sd), .ref gk, .ref gr])), (gn, .inl (cQ, 12, .inr (.inr (.inr (.inr (fun i => some (na i))))))), (q1, .inl (cI, 31, .inl fm)), (r_2, .inl (cI, 4, .inl (fun i => nI ((ks_dg ca) i)))), (r_7, .inl (cI, (ks_st P ca + 1), .inl h_7))] ++ (tl_T cI 12 na (ks_nr P) 4 wa (ks_wr W) rc ra (ks_rr Q) n ka (ks_kn t S mu)))) (by rw [show ks_st P ca = 30 by omega]) ?_
      refine g_widen (k := 3) (n := 66) (by (try dsimp only); omega) (by (try dsimp only); omega) ?_
      refine g_subT (X2 := [(gb, .inr (6, [.ref hb, .ref b, .int (nI dw), .ref gn, .ref gv, .int (nI sd), .ref gk, .ref gr])), (gn, .inl (cQ, 12, .inr (.inr (.inr (.inr (fun i => some (na i))))))), (r_7, .inl (cI, (ks_st P ca + 1), .inl h_7))]) [0, 1, 4] (by decide) rfl ?_
      exact g_aret_x B hr (Or.inr ⟨_, rfl⟩) hlocks (r_7, h_7) (rfl) (by (try dsimp only); exact ⟨fun j hj => by rw [hu7.1 j (by omega)]; exact i3 j (by omega), by rw [show ks_st P ca = 30 by omega, hu7.2, z2]⟩) (by (try dsimp only) <;> rfl) dX6_run_210
  · refine g_aload_n B dX6_run_23 0 rfl ?_
    refine g_get (C := RX6) (T := TX6) (N := 8) (ci := 6) B hK hin_X6_run_RX6 0 rfl rfl 3 (by decide) (List.mem_of_getElem? (i := 2) rfl) rfl (v := .ref gn) rfl dX6_run_24 ?_
    refine g_iload B dX6_run_27 4 rfl ?_
    refine g_qald B hK 1 3 rfl rfl (ks_nd P ca k) rfl (by omega) (by omega) (r := (na (ks_nd P ca k))) rfl dX6_run_29 ?_
    refine g_astore (lv' := [(0, .ref gb), (1, .int (nI ca)), (2, .ref q1), (3, .ref r_2), (4, .int (nI (ks_nd P ca k))), (5, .int (nI k)), (6, .ref (na (ks_nd P ca k)))]) B dX6_run_30 (by decide) [1, 2, 3, 4, 5, 6, 0] rfl ?_
    refine g_aload B dX6_run_32 6 rfl ?_
    refine g_iconst (v := (5 : Int32)) B dX6_run_34 (by decide) ?_
    refine g_iald B hK _ 0 (tl_g1 (i := (ks_nd P ca k)) (by omega)) rfl 5 rfl (by omega) (by omega) (v := bI (P.2.2.2.2 (ks_nd P ca k))) (rfl) dX6_run_35 ?_
    refine g_iconst (v := (1 : Int32)) B dX6_run_36 (by decide) ?_
    refine g_bcmp_ne (tgt := 52) B dX6_run_37 (by decide) (fun c8 => ?_) (fun c8 => ?_)
    · refine g_aload_n B dX6_run_52 3 rfl ?_
      refine g_aload B dX6_run_53 6 rfl ?_
      refine g_iconst (v := (0 : Int32)) B dX6_run_55 (by decide) ?_
      refine g_iald B hK _ 0 (tl_g1 (i := (ks_nd P ca k)) (by omega)) rfl 0 rfl (by omega) (by omega) (v := nI (P.1 (ks_nd P ca k))) (rfl) dX6_run_56 ?_
      refine g_iald B hK 3 0 rfl rfl (P.1 (ks_nd P ca k)) rfl (by omega) (by omega) (v := nI ((ks_dg ca) (P.1 (ks_nd P ca k)))) rfl dX6_run_57 ?_
      refine g_istore (lv' := [(0, .ref gb), (1, .int (nI ca)), (2, .ref q1), (3, .ref r_2), (4, .int (nI (ks_nd P ca k))), (5, .int (nI k)), (6, .ref (na (ks_nd P ca k))), (7, .int (nI ((ks_dg ca) (P.1 (ks_nd P ca k)))))]) B dX6_run_58 (by decide) [1, 2, 3, 4, 5, 6, 7, 0] rfl ?_
      refine g_aload B dX6_run_60 6 rfl ?_
      refine g_iconst (v := (1 : Int32)) B dX6_run_62 (by decide) ?_
      refine g_iald B hK _ 0 (tl_g1 (i := (ks_nd P ca k)) (by omega)) rfl 1 rfl (by omega) (by omega) (v := nI (P.2.1 (ks_nd P ca k))) (rfl) dX6_run_63 ?_
      refine g_nif_ne (tgt := 76) B (P.2.1 (ks_nd P ca k)) rfl (by omega) dX6_run_64 (by decide) (fun c10 => ?_) (fun c10 => ?_)
      · refine g_aload B dX6_run_76 6 rfl ?_
        refine g_iconst (v := (1 : Int32)) B dX6_run_78 (by decide) ?_
        refine g_iald B hK _ 0 (tl_g1 (i := (ks_nd P ca k)) (by omega)) rfl 1 rfl (by omega) (by omega) (v := nI (P.2.1 (ks_nd P ca k))) (rfl) dX6_run_79 ?_
        refine g_iconst (v := (1 : Int32)) B dX6_run_80 (by decide) ?_
        refine g_ncmp_ne (tgt := 93) B (P.2.1 (ks_nd P ca k)) 1 rfl rfl (by omega) (by omega) dX6_run_81 (by decide) (fun c12 => ?_) (fun c12 => ?_)
        · refine g_aload B dX6_run_93 6 rfl ?_
          refine g_iconst (v := (1 : Int32)) B dX6_run_95 (by decide) ?_
          refine g_iald B hK _ 0 (tl_g1 (i := (ks_nd P ca k)) (by omega)) rfl 1 rfl (by omega) (by omega) (v := nI (P.2.1 (ks_nd P ca k))) (rfl) dX6_run_96 ?_
          refine g_iconst (v := (2 : Int32)) B dX6_run_97 (by decide) ?_
          refine g_ncmp_ne (tgt := 114) B (P.2.1 (ks_nd P ca k)) 2 rfl rfl (by omega) (by omega) dX6_run_98 (by decide) (fun c14 => ?_) (fun c14 => ?_)
          · refine g_iconst (v := (0 : Int32)) B dX6_run_114 (by decide) ?_
            refine g_istore (lv' := [(0, .ref gb), (1, .int (nI ca)), (2, .ref q1), (3, .ref r_2), (4, .int (nI (ks_nd P ca k))), (5, .int (nI k)), (6, .ref (na (ks_nd P ca k))), (7, .int (nI ((ks_dg ca) (P.1 (ks_nd P ca k))))), (8, .int (0 : Int32))]) B dX6_run_115 (by decide) [1, 2, 3, 4, 5, 6, 7, 8, 0] rfl ?_
            have hso : ks_so P (ks_nd P ca k) ca = false := by unfold ks_so; split <;> (try split) <;> simp <;> omega
            refine g_aload_n B dX6_run_117 2 rfl ?_
            refine g_iload B dX6_run_118 5 rfl ?_
            refine g_iload B dX6_run_120 8 rfl ?_
            refine g_if_eq (tgt := 132) B dX6_run_122 (by decide) (fun _ => ?_) (fun c15 => absurd (by decide) c15)
            refine g_iconst (v := (2 : Int32)) B dX6_run_132 (by decide) ?_
            refine g_iload B dX6_run_133 4 rfl ?_
            refine g_imul (v := nI (2 * (ks_nd P ca k))) B dX6_run_135 (pk_mul 2 (ks_nd P ca k)) ?_
            refine g_iconst (v := (1 : Int32)) B dX6_run_136 (by decide) ?_
            refine g_iadd (v := nI ((2 * (ks_nd P ca k)) + 1)) B dX6_run_137 (nI_add (2 * (ks_nd P ca k)) 1) ?_
            refine g_eqi (y := nI (ks_ek P ca k)) (fw_ek0 hso) ?_
            have hg : ks_go P (ks_nd P ca k) = true := ks_go_of i4 c8
            have hek : ks_ek P ca k < 24 := (ks_eg_lt i4).1
            refine g_iast B hK 2 0 rfl rfl k rfl (by omega) (by omega) (f2 := (upd fm k (nI (ks_ek P ca k)))) (rfl) (w2 := ([(gb, .inr (6, [.ref hb, .ref b, .int (nI dw), .ref gn, .ref gv, .int (nI sd), .ref gk, .ref gr])), (gn, .inl (cQ, 12, .inr (.inr (.inr (.inr (fun i => some (na i))))))), (q1, .inl (cI, 31, .inl (upd fm k (nI (ks_ek P ca k))))), (r_2, .inl (cI, 4, .inl (fun i => nI ((ks_dg ca) i))))] ++ (tl_T cI 12 na (ks_nr P) 4 wa (ks_wr W) rc ra (ks_rr Q) n ka (ks_kn t S mu)))) rfl (fun _ h => h) dX6_run_138 ?_
            refine g_iload B dX6_run_139 8 rfl ?_
            refine g_if_eq (tgt := 151) B dX6_run_141 (by decide) (fun _ => ?_) (fun c16 => absurd (by decide) c16)
            refine g_aload B dX6_run_151 6 rfl ?_
            refine g_iconst (v := (4 : Int32)) B dX6_run_153 (by decide) ?_
            refine g_iald B hK _ 0 (tl_g1 (i := (ks_nd P ca k)) (by omega)) rfl 4 rfl (by omega) (by omega) (v := ks_tI (P.2.2.2.1 (2 * (ks_nd P ca k) + 1))) (rfl) dX6_run_154 ?_
            refine g_eqi (y := ks_tI (P.2.2.2.1 (ks_ek P ca k))) (by rw [show ks_ek P ca k = 2 * ks_nd P ca k + 1 from by unfold ks_ek ks_eg; rw [hso]; rfl]) ?_
            refine g_istore (lv' := [(0, .ref gb), (1, .int (nI ca)), (2, .ref q1), (3, .ref r_2), (4, .int (ks_tI (P.2.2.2.1 (ks_ek P ca k)))), (5, .int (nI k)), (6, .ref (na (ks_nd P ca k))), (7, .int (nI ((ks_dg ca) (P.1 (ks_nd P ca k))))), (8, .int (0 : Int32))]) B dX6_run_155 (by decide) [1, 2, 3, 4, 0, 5, 6, 7, 8] rfl ?_
            refine g_iload B dX6_run_157 4 rfl ?_
            refine g_tif_ge (tgt := 175) B dX6_run_159 (by decide) (fun c17 => ?_) (fun c17 => ?_)
            · have e1 := (ks_step hg).1
              have hn1 : ks_nd P ca (k + 1) < 12 := by rw [e1]; exact c17
              refine g_eqlv (lv2 := [(0, .ref gb), (1, .int (nI ca)), (2, .ref q1), (3, .ref r_2), (4, .int (nI (ks_nd P ca (k + 1)))), (5, .int (nI k)), (6, .ref (na (ks_nd P ca k))), (7, .int (nI ((ks_dg ca) (P.1 (ks_nd P ca k))))), (8, .int (0 : Int32))]) (by rw [e1, ks_tI_lt c17]) ?_
              refine g_iinc (lv' := [(0, .ref gb), (1, .int (nI ca)), (2, .ref q1), (3, .ref r_2), (4, .int (nI (ks_nd P ca (k + 1)))), (5, .int (nI (k + 1))), (6, .ref (na (ks_nd P ca k))), (7, .int (nI ((ks_dg ca) (P.1 (ks_nd P ca k))))), (8, .int (0 : Int32))]) B dX6_run_175 5 rfl (nI_1 k) (by decide) [1, 2, 3, 4, 5, 0, 6, 7, 8] rfl ?_
              refine g_goto (tgt := 16) B dX6_run_178 (by decide) ?_
              refine g_widen (k := 2) (n := 35) (by (try dsimp only); omega) (by (try dsimp only); omega) ?_
              have ihx18 := ih16 (k + 1, (upd fm k (nI (ks_ek P ca k))))
              try dsimp only at ihx18
              exact g_pick [0, 1, 2, 3, 4, 5] rfl (ihx18 (⟨by omega, lt_s i2 hg, lt_s (p := fun j => upd fm k (nI (ks_ek P ca k)) j = nI (ks_ek P ca j)) (fun a ha => by rw [pk_un (by omega)]; exact i3 a ha) pk_us, hn1⟩) (by (try dsimp only); omega))
            · refine g_aload_n B dX6_run_162 2 rfl ?_
              refine g_iload B dX6_run_163 5 rfl ?_
              refine g_iconst (v := (1 : Int32)) B dX6_run_165 (by decide) ?_
              refine g_iadd (v := nI (k + 1)) B dX6_run_166 (nI_add k 1) ?_
              refine g_aload_n B dX6_run_167 2 rfl ?_
              refine g_iload B dX6_run_168 5 rfl ?_
              refine g_iald B hK 2 0 rfl rfl k rfl (by omega) (by omega) (v := nI (ks_ek P ca k)) pk_us dX6_run_170 ?_
              refine g_callU (w2 := (fun (z9 : Nat × (Nat → Int32)) => [(gb, .inr (6, [.ref hb, .ref b, .int (nI dw), .ref gn, .ref gv, .int (nI sd), .ref gk, .ref gr])), (gn, .inl (cQ, 12, .inr (.inr (.inr (.inr (fun i => some (na i))))))), (q1, .inl (cI, 31, .inl (upd fm k (nI (ks_ek P ca k))))), (r_2, .inl (cI, 4, .inl (fun i => nI ((ks_dg ca) i)))), (z9.1, .inl (cI, ((k + 1) + 1), .inl z9.2))])) (g_runS B (b_told l (D := D) (cI := cI) (cL := cL) (cZ := cZ) (cQ := cQ) q1 (k + 1) (ks_ek P ca k) (upd fm k (nI (ks_ek P ca k))) (by first | with_reducible assumption | omega | assumption)) (gPw.pre (av := [.ref q1, .int (nI (k + 1)), .int (nI (ks_ek P ca k))]) (wc := [(q1, .inl (cI, 31, .inl (upd fm k (nI (ks_ek P ca k)))))]) hK hN [2] rfl (by decide)) gX6_run_X6_told rfl kd_X6_told ⟨by decide, by decide⟩ (st := []) rfl (Nat.le_of_ble_eq_true rfl) dX6_run_171 ⟨by (try dsimp only); omega, by (try dsimp only); omega⟩) hA (fun _ h => h) [2] [0, 1, 3] (wr := [(gb, .inr (6, [.ref hb, .ref b, .int (nI dw), .ref gn, .ref gv, .int (nI sd), .ref gk, .ref gr])), (gn, .inl (cQ, 12, .inr (.inr (.inr (.inr (fun i => some (na i))))))), (r_2, .inl (cI, 4, .inl (fun i => nI ((ks_dg ca) i))))]) rfl rfl (by decide) (by decide) [0, 1, 3, 2, 4] (by decide) (fun _ => rfl) (fun u hu => ?_)
              obtain ⟨r_19, h_19⟩ := u
              try dsimp only at hu ⊢
              have hu19 := hu
              have hnx : ¬ ks_nd P ca (k + 1) < 12 := by rw [(ks_step hg).1]; exact c17
              obtain ⟨z1, z2, z3⟩ := fw_A (by omega) (lt_s i2 hg) hnx
              refine g_eqw (w2 := ([(gb, .inr (6, [.ref hb, .ref b, .int (nI dw), .ref gn, .ref gv, .int (nI sd), .ref gk, .ref gr])), (gn, .inl (cQ, 12, .inr (.inr (.inr (.inr (fun i => some (na i))))))), (q1, .inl (cI, 31, .inl (upd fm k (nI (ks_ek P ca k))))), (r_2, .inl (cI, 4, .inl (fun i => nI ((ks_dg ca) i)))), (r_19, .inl (cI, (ks_st P ca + 1), .inl h_19))] ++ (tl_T cI 12 na (ks_nr P) 4 wa (ks_wr W) rc ra (ks_rr Q) n ka (ks_kn t S mu)))) (by rw [show ks_st P ca = k + 1 by omega]) ?_
              refine g_widen (k := 3) (n := 66) (by (try dsimp only); omega) (by (try dsimp only); omega) ?_
              refine g_subT (X2 := [(gb, .inr (6, [.ref hb, .ref b, .int (nI dw), .ref gn, .ref gv, .int (nI sd), .ref gk, .ref gr])), (gn, .inl (cQ, 12, .inr (.inr (.inr (.inr (fun i => some (na i))))))), (r_19, .inl (cI, (ks_st P ca + 1), .inl h_19))]) [0, 1, 4] (by decide) rfl ?_
              exact g_aret_x B hr (Or.inr ⟨_, rfl⟩) hlocks (r_19, h_19) (rfl) (by (try dsimp only); exact ⟨fun j hj => by rw [← z1] at hj; rw [hu19.1 j hj]; exact lt_s (p := fun j => upd fm k (nI (ks_ek P ca k)) j = nI (ks_ek P ca j)) (fun a ha => by rw [pk_un (by omega)]; exact i3 a ha) pk_us j hj, by rw [← z1, hu19.2, ← z2, fw_rI hg]⟩) (by (try dsimp only) <;> rfl) dX6_run_174
          · refine g_iload B dX6_run_101 7 rfl ?_
            refine g_aload B dX6_run_103 6 rfl ?_
            refine g_iconst (v := (2 : Int32)) B dX6_run_105 (by decide) ?_
            refine g_iald B hK _ 0 (tl_g1 (i := (ks_nd P ca k)) (by omega)) rfl 2 rfl (by omega) (by omega) (v := nI (P.2.2.1 (ks_nd P ca k))) (rfl) dX6_run_106 ?_
            refine g_ncmp_le (tgt := 114) B ((ks_dg ca) (P.1 (ks_nd P ca k))) (P.2.2.1 (ks_nd P ca k)) rfl rfl (by omega) (by omega) dX6_run_107 (by decide) (fun c21 => ?_) (fun c21 => ?_)
            · refine g_iconst (v := (0 : Int32)) B dX6_run_114 (by decide) ?_
              refine g_istore (lv' := [(0, .ref gb), (1, .int (nI ca)), (2, .ref q1), (3, .ref r_2), (4, .int (nI (ks_nd P ca k))), (5, .int (nI k)), (6, .ref (na (ks_nd P ca k))), (7, .int (nI ((ks_dg ca) (P.1 (ks_nd P ca k))))), (8, .int (0 : Int32))]) B dX6_run_115 (by decide) [1, 2, 3, 4, 5, 6, 7, 8, 0] rfl ?_
              have hso : ks_so P (ks_nd P ca k) ca = false := by unfold ks_so; split <;> (try split) <;> simp <;> omega
              refine g_aload_n B dX6_run_117 2 rfl ?_
              refine g_iload B dX6_run_118 5 rfl ?_
              refine g_iload B dX6_run_120 8 rfl ?_
              refine g_if_eq (tgt := 132) B dX6_run_122 (by decide) (fun _ => ?_) (fun c22 => absurd (by decide) c22)
              refine g_iconst (v := (2 : Int32)) B dX6_run_132 (by decide) ?_
              refine g_iload B dX6_run_133 4 rfl ?_
              refine g_imul (v := nI (2 * (ks_nd P ca k))) B dX6_run_135 (pk_mul 2 (ks_nd P ca k)) ?_
              refine g_iconst (v := (1 : Int32)) B dX6_run_136 (by decide) ?_
              refine g_iadd (v := nI ((2 * (ks_nd P ca k)) + 1)) B dX6_run_137 (nI_add (2 * (ks_nd P ca k)) 1) ?_
              refine g_eqi (y := nI (ks_ek P ca k)) (fw_ek0 hso) ?_
              have hg : ks_go P (ks_nd P ca k) = true := ks_go_of i4 c8
              have hek : ks_ek P ca k < 24 := (ks_eg_lt i4).1
              refine g_iast B hK 2 0 rfl rfl k rfl (by omega) (by omega) (f2 := (upd fm k (nI (ks_ek P ca k)))) (rfl) (w2 := ([(gb, .inr (6, [.ref hb, .ref b, .int (nI dw), .ref gn, .ref gv, .int (nI sd), .ref gk, .ref gr])), (gn, .inl (cQ, 12, .inr (.inr (.inr (.inr (fun i => some (na i))))))), (q1, .inl (cI, 31, .inl (upd fm k (nI (ks_ek P ca k))))), (r_2, .inl (cI, 4, .inl (fun i => nI ((ks_dg ca) i))))] ++ (tl_T cI 12 na (ks_nr P) 4 wa (ks_wr W) rc ra (ks_rr Q) n ka (ks_kn t S mu)))) rfl (fun _ h => h) dX6_run_138 ?_
              refine g_iload B dX6_run_139 8 rfl ?_
              refine g_if_eq (tgt := 151) B dX6_run_141 (by decide) (fun _ => ?_) (fun c23 => absurd (by decide) c23)
              refine g_aload B dX6_run_151 6 rfl ?_
              refine g_iconst (v := (4 : Int32)) B dX6_run_153 (by decide) ?_
              refine g_iald B hK _ 0 (tl_g1 (i := (ks_nd P ca k)) (by omega)) rfl 4 rfl (by omega) (by omega) (v := ks_tI (P.2.2.2.1 (2 * (ks_nd P ca k) + 1))) (rfl) dX6_run_154 ?_
              refine g_eqi (y := ks_tI (P.2.2.2.1 (ks_ek P ca k))) (by rw [show ks_ek P ca k = 2 * ks_nd P ca k + 1 from by unfold ks_ek ks_eg; rw [hso]; rfl]) ?_
              refine g_istore (lv' := [(0, .ref gb), (1, .int (nI ca)), (2, .ref q1), (3, .ref r_2), (4, .int (ks_tI (P.2.2.2.1 (ks_ek P ca k)))), (5, .int (nI k)), (6, .ref (na (ks_nd P ca k))), (7, .int (nI ((ks_dg ca) (P.1 (ks_nd P ca k))))), (8, .int (0 : Int32))]) B dX6_run_155 (by decide) [1, 2, 3, 4, 0, 5, 6, 7, 8] rfl ?_
              refine g_iload B dX6_run_157 4 rfl ?_
              refine g_tif_ge (tgt := 175) B dX6_run_159 (by decide) (fun c24 => ?_) (fun c24 => ?_)
              · have e1 := (ks_step hg).1
                have hn1 : ks_nd P ca (k + 1) < 12 := by rw [e1]; exact c24
                refine g_eqlv (lv2 := [(0, .ref gb), (1, .int (nI ca)), (2, .ref q1), (3, .ref r_2), (4, .int (nI (ks_nd P ca (k + 1)))), (5, .int (nI k)), (6, .ref (na (ks_nd P ca k))), (7, .int (nI ((ks_dg ca) (P.1 (ks_nd P ca k))))), (8, .int (0 : Int32))]) (by rw [e1, ks_tI_lt c24]) ?_
                refine g_iinc (lv' := [(0, .ref gb), (1, .int (nI ca)), (2, .ref q1), (3, .ref r_2), (4, .int (nI (ks_nd P ca (k + 1)))), (5, .int (nI (k + 1))), (6, .ref (na (ks_nd P ca k))), (7, .int (nI ((ks_dg ca) (P.1 (ks_nd P ca k))))), (8, .int (0 : Int32))]) B dX6_run_175 5 rfl (nI_1 k) (by decide) [1, 2, 3, 4, 5, 0, 6, 7, 8] rfl ?_
                refine g_goto (tgt := 16) B dX6_run_178 (by decide) ?_
                refine g_widen (k := 2) (n := 35) (by (try dsimp only); omega) (by (try dsimp only); omega) ?_
                have ihx25 := ih16 (k + 1, (upd fm k (nI (ks_ek P ca k))))
                try dsimp only at ihx25
                exact g_pick [0, 1, 2, 3, 4, 5] rfl (ihx25 (⟨by omega, lt_s i2 hg, lt_s (p := fun j => upd fm k (nI (ks_ek P ca k)) j = nI (ks_ek P ca j)) (fun a ha => by rw [pk_un (by omega)]; exact i3 a ha) pk_us, hn1⟩) (by (try dsimp only); omega))
              · refine g_aload_n B dX6_run_162 2 rfl ?_
                refine g_iload B dX6_run_163 5 rfl ?_
                refine g_iconst (v := (1 : Int32)) B dX6_run_165 (by decide) ?_
                refine g_iadd (v := nI (k + 1)) B dX6_run_166 (nI_add k 1) ?_
                refine g_aload_n B dX6_run_167 2 rfl ?_
                refine g_iload B dX6_run_168 5 rfl ?_
                refine g_iald B hK 2 0 rfl rfl k rfl (by omega) (by omega) (v := nI (ks_ek P ca k)) pk_us dX6_run_170 ?_
                refine g_callU (w2 := (fun (z9 : Nat × (Nat → Int32)) => [(gb, .inr (6, [.ref hb, .ref b, .int (nI dw), .ref gn, .ref gv, .int (nI sd), .ref gk, .ref gr])), (gn, .inl (cQ, 12, .inr (.inr (.inr (.inr (fun i => some (na i))))))), (q1, .inl (cI, 31, .inl (upd fm k (nI (ks_ek P ca k))))), (r_2, .inl (cI, 4, .inl (fun i => nI ((ks_dg ca) i)))), (z9.1, .inl (cI, ((k + 1) + 1), .inl z9.2))])) (g_runS B (b_told l (D := D) (cI := cI) (cL := cL) (cZ := cZ) (cQ := cQ) q1 (k + 1) (ks_ek P ca k) (upd fm k (nI (ks_ek P ca k))) (by first | with_reducible assumption | omega | assumption)) (gPw.pre (av := [.ref q1, .int (nI (k + 1)), .int (nI (ks_ek P ca k))]) (wc := [(q1, .inl (cI, 31, .inl (upd fm k (nI (ks_ek P ca k)))))]) hK hN [2] rfl (by decide)) gX6_run_X6_told rfl kd_X6_told ⟨by decide, by decide⟩ (st := []) rfl (Nat.le_of_ble_eq_true rfl) dX6_run_171 ⟨by (try dsimp only); omega, by (try dsimp only); omega⟩) hA (fun _ h => h) [2] [0, 1, 3] (wr := [(gb, .inr (6, [.ref hb, .ref b, .int (nI dw), .ref gn, .ref gv, .int (nI sd), .ref gk, .ref gr])), (gn, .inl (cQ, 12, .inr (.inr (.inr (.inr (fun i => some (na i))))))), (r_2, .inl (cI, 4, .inl (fun i => nI ((ks_dg ca) i))))]) rfl rfl (by decide) (by decide) [0, 1, 3, 2, 4] (by decide) (fun _ => rfl) (fun u hu => ?_)
                obtain ⟨r_26, h_26⟩ := u
                try dsimp only at hu ⊢
                have hu26 := hu
                have hnx : ¬ ks_nd P ca (k + 1) < 12 := by rw [(ks_step hg).1]; exact c24
                obtain ⟨z1, z2, z3⟩ := fw_A (by omega) (lt_s i2 hg) hnx
                refine g_eqw (w2 := ([(gb, .inr (6, [.ref hb, .ref b, .int (nI dw), .ref gn, .ref gv, .int (nI sd), .ref gk, .ref gr])), (gn, .inl (cQ, 12, .inr (.inr (.inr (.inr (fun i => some (na i))))))), (q1, .inl (cI, 31, .inl (upd fm k (nI (ks_ek P ca k))))), (r_2, .inl (cI, 4, .inl (fun i => nI ((ks_dg ca) i)))), (r_26, .inl (cI, (ks_st P ca + 1), .inl h_26))] ++ (tl_T cI 12 na (ks_nr P) 4 wa (ks_wr W) rc ra (ks_rr Q) n ka (ks_kn t S mu)))) (by rw [show ks_st P ca = k + 1 by omega]) ?_
                refine g_widen (k := 3) (n := 66) (by (try dsimp only); omega) (by (try dsimp only); omega) ?_
                refine g_subT (X2 := [(gb, .inr (6, [.ref hb, .ref b, .int (nI dw), .ref gn, .ref gv, .int (nI sd), .ref gk, .ref gr])), (gn, .inl (cQ, 12, .inr (.inr (.inr (.inr (fun i => some (na i))))))), (r_26, .inl (cI, (ks_st P ca + 1), .inl h_26))]) [0, 1, 4] (by decide) rfl ?_
                exact g_aret_x B hr (Or.inr ⟨_, rfl⟩) hlocks (r_26, h_26) (rfl) (by (try dsimp only); exact ⟨fun j hj => by rw [← z1] at hj; rw [hu26.1 j hj]; exact lt_s (p := fun j => upd fm k (nI (ks_ek P ca k)) j = nI (ks_ek P ca j)) (fun a ha => by rw [pk_un (by omega)]; exact i3 a ha) pk_us j hj, by rw [← z1, hu26.2, ← z2, fw_rI hg]⟩) (by (try dsimp only) <;> rfl) dX6_run_174
            · refine g_iconst (v := (1 : Int32)) B dX6_run_110 (by decide) ?_
              refine g_goto (tgt := 115) B dX6_run_111 (by decide) ?_
              refine g_istore (lv' := [(0, .ref gb), (1, .int (nI ca)), (2, .ref q1), (3, .ref r_2), (4, .int (nI (ks_nd P ca k))), (5, .int (nI k)), (6, .ref (na (ks_nd P ca k))), (7, .int (nI ((ks_dg ca) (P.1 (ks_nd P ca k))))), (8, .int (1 : Int32))]) B dX6_run_115 (by decide) [1, 2, 3, 4, 5, 6, 7, 8, 0] rfl ?_
              have hso : ks_so P (ks_nd P ca k) ca = true := by unfold ks_so; split <;> (try split) <;> simp <;> omega
              refine g_aload_n B dX6_run_117 2 rfl ?_
              refine g_iload B dX6_run_118 5 rfl ?_
              refine g_iload B dX6_run_120 8 rfl ?_
              refine g_if_eq (tgt := 132) B dX6_run_122 (by decide) (fun c27 => absurd c27 (by decide)) (fun _ => ?_)
              refine g_iconst (v := (2 : Int32)) B dX6_run_125 (by decide) ?_
              refine g_iload B dX6_run_126 4 rfl ?_
              refine g_imul (v := nI (2 * (ks_nd P ca k))) B dX6_run_128 (pk_mul 2 (ks_nd P ca k)) ?_
              refine g_goto (tgt := 138) B dX6_run_129 (by decide) ?_
              refine g_eqi (y := nI (ks_ek P ca k)) (fw_ek1 hso) ?_
              have hg : ks_go P (ks_nd P ca k) = true := ks_go_of i4 c8
              have hek : ks_ek P ca k < 24 := (ks_eg_lt i4).1
              refine g_iast B hK 2 0 rfl rfl k rfl (by omega) (by omega) (f2 := (upd fm k (nI (ks_ek P ca k)))) (rfl) (w2 := ([(gb, .inr (6, [.ref hb, .ref b, .int (nI dw), .ref gn, .ref gv, .int (nI sd), .ref gk, .ref gr])), (gn, .inl (cQ, 12, .inr (.inr (.inr (.inr (fun i => some (na i))))))), (q1, .inl (cI, 31, .inl (upd fm k (nI (ks_ek P ca k))))), (r_2, .inl (cI, 4, .inl (fun i => nI ((ks_dg ca) i))))] ++ (tl_T cI 12 na (ks_nr P) 4 wa (ks_wr W) rc ra (ks_rr Q) n ka (ks_kn t S mu)))) rfl (fun _ h => h) dX6_run_138 ?_
              refine g_iload B dX6_run_139 8 rfl ?_
              refine g_if_eq (tgt := 151) B dX6_run_141 (by decide) (fun c28 => absurd c28 (by decide)) (fun _ => ?_)
              refine g_aload B dX6_run_144 6 rfl ?_
              refine g_iconst (v := (3 : Int32)) B dX6_run_146 (by decide) ?_
              refine g_iald B hK _ 0 (tl_g1 (i := (ks_nd P ca k)) (by omega)) rfl 3 rfl (by omega) (by omega) (v := ks_tI (P.2.2.2.1 (2 * (ks_nd P ca k)))) (rfl) dX6_run_147 ?_
              refine g_goto (tgt := 155) B dX6_run_148 (by decide) ?_
              refine g_eqi (y := ks_tI (P.2.2.2.1 (ks_ek P ca k))) (by rw [show ks_ek P ca k = 2 * ks_nd P ca k from by unfold ks_ek ks_eg; rw [hso]; rfl]) ?_
              refine g_istore (lv' := [(0, .ref gb), (1, .int (nI ca)), (2, .ref q1), (3, .ref r_2), (4, .int (ks_tI (P.2.2.2.1 (ks_ek P ca k)))), (5, .int (nI k)), (6, .ref (na (ks_nd P ca k))), (7, .int (nI ((ks_dg ca) (P.1 (ks_nd P ca k))))), (8, .int (1 : Int32))]) B dX6_run_155 (by decide) [1, 2, 3, 4, 0, 5, 6, 7, 8] rfl ?_
              refine g_iload B dX6_run_157 4 rfl ?_
              refine g_tif_ge (tgt := 175) B dX6_run_159 (by decide) (fun c29 => ?_) (fun c29 => ?_)
              · have e1 := (ks_step hg).1
                have hn1 : ks_nd P ca (k + 1) < 12 := by rw [e1]; exact c29
                refine g_eqlv (lv2 := [(0, .ref gb), (1, .int (nI ca)), (2, .ref q1), (3, .ref r_2), (4, .int (nI (ks_nd P ca (k + 1)))), (5, .int (nI k)), (6, .ref (na (ks_nd P ca k))), (7, .int (nI ((ks_dg ca) (P.1 (ks_nd P ca k))))), (8, .int (1 : Int32))]) (by rw [e1, ks_tI_lt c29]) ?_
                refine g_iinc (lv' := [(0, .ref gb), (1, .int (nI ca)), (2, .ref q1), (3, .ref r_2), (4, .int (nI (ks_nd P ca (k + 1)))), (5, .int (nI (k + 1))), (6, .ref (na (ks_nd P ca k))), (7, .int (nI ((ks_dg ca) (P.1 (ks_nd P ca k))))), (8, .int (1 : Int32))]) B dX6_run_175 5 rfl (nI_1 k) (by decide) [1, 2, 3, 4, 5, 0, 6, 7, 8] rfl ?_
                refine g_goto (tgt := 16) B dX6_run_178 (by decide) ?_
                refine g_widen (k := 2) (n := 35) (by (try dsimp only); omega) (by (try dsimp only); omega) ?_
                have ihx30 := ih16 (k + 1, (upd fm k (nI (ks_ek P ca k))))
                try dsimp only at ihx30
                exact g_pick [0, 1, 2, 3, 4, 5] rfl (ihx30 (⟨by omega, lt_s i2 hg, lt_s (p := fun j => upd fm k (nI (ks_ek P ca k)) j = nI (ks_ek P ca j)) (fun a ha => by rw [pk_un (by omega)]; exact i3 a ha) pk_us, hn1⟩) (by (try dsimp only); omega))
              · refine g_aload_n B dX6_run_162 2 rfl ?_
                refine g_iload B dX6_run_163 5 rfl ?_
                refine g_iconst (v := (1 : Int32)) B dX6_run_165 (by decide) ?_
                refine g_iadd (v := nI (k + 1)) B dX6_run_166 (nI_add k 1) ?_
                refine g_aload_n B dX6_run_167 2 rfl ?_
                refine g_iload B dX6_run_168 5 rfl ?_
                refine g_iald B hK 2 0 rfl rfl k rfl (by omega) (by omega) (v := nI (ks_ek P ca k)) pk_us dX6_run_170 ?_
                refine g_callU (w2 := (fun (z9 : Nat × (Nat → Int32)) => [(gb, .inr (6, [.ref hb, .ref b, .int (nI dw), .ref gn, .ref gv, .int (nI sd), .ref gk, .ref gr])), (gn, .inl (cQ, 12, .inr (.inr (.inr (.inr (fun i => some (na i))))))), (q1, .inl (cI, 31, .inl (upd fm k (nI (ks_ek P ca k))))), (r_2, .inl (cI, 4, .inl (fun i => nI ((ks_dg ca) i)))), (z9.1, .inl (cI, ((k + 1) + 1), .inl z9.2))])) (g_runS B (b_told l (D := D) (cI := cI) (cL := cL) (cZ := cZ) (cQ := cQ) q1 (k + 1) (ks_ek P ca k) (upd fm k (nI (ks_ek P ca k))) (by first | with_reducible assumption | omega | assumption)) (gPw.pre (av := [.ref q1, .int (nI (k + 1)), .int (nI (ks_ek P ca k))]) (wc := [(q1, .inl (cI, 31, .inl (upd fm k (nI (ks_ek P ca k)))))]) hK hN [2] rfl (by decide)) gX6_run_X6_told rfl kd_X6_told ⟨by decide, by decide⟩ (st := []) rfl (Nat.le_of_ble_eq_true rfl) dX6_run_171 ⟨by (try dsimp only); omega, by (try dsimp only); omega⟩) hA (fun _ h => h) [2] [0, 1, 3] (wr := [(gb, .inr (6, [.ref hb, .ref b, .int (nI dw), .ref gn, .ref gv, .int (nI sd), .ref gk, .ref gr])), (gn, .inl (cQ, 12, .inr (.inr (.inr (.inr (fun i => some (na i))))))), (r_2, .inl (cI, 4, .inl (fun i => nI ((ks_dg ca) i))))]) rfl rfl (by decide) (by decide) [0, 1, 3, 2, 4] (by decide) (fun _ => rfl) (fun u hu => ?_)
                obtain ⟨r_31, h_31⟩ := u
                try dsimp only at hu ⊢
                have hu31 := hu
                have hnx : ¬ ks_nd P ca (k + 1) < 12 := by rw [(ks_step hg).1]; exact c29
                obtain ⟨z1, z2, z3⟩ := fw_A (by omega) (lt_s i2 hg) hnx
                refine g_eqw (w2 := ([(gb, .inr (6, [.ref hb, .ref b, .int (nI dw), .ref gn, .ref gv, .int (nI sd), .ref gk, .ref gr])), (gn, .inl (cQ, 12, .inr (.inr (.inr (.inr (fun i => some (na i))))))), (q1, .inl (cI, 31, .inl (upd fm k (nI (ks_ek P ca k))))), (r_2, .inl (cI, 4, .inl (fun i => nI ((ks_dg ca) i)))), (r_31, .inl (cI, (ks_st P ca + 1), .inl h_31))] ++ (tl_T cI 12 na (ks_nr P) 4 wa (ks_wr W) rc ra (ks_rr Q) n ka (ks_kn t S mu)))) (by rw [show ks_st P ca = k + 1 by omega]) ?_
                refine g_widen (k := 3) (n := 66) (by (try dsimp only); omega) (by (try dsimp only); omega) ?_
                refine g_subT (X2 := [(gb, .inr (6, [.ref hb, .ref b, .int (nI dw), .ref gn, .ref gv, .int (nI sd), .ref gk, .ref gr])), (gn, .inl (cQ, 12, .inr (.inr (.inr (.inr (fun i => some (na i))))))), (r_31, .inl (cI, (ks_st P ca + 1), .inl h_31))]) [0, 1, 4] (by decide) rfl ?_
                exact g_aret_x B hr (Or.inr ⟨_, rfl⟩) hlocks (r_31, h_31) (rfl) (by (try dsimp only); exact ⟨fun j hj => by rw [← z1] at hj; rw [hu31.1 j hj]; exact lt_s (p := fun j => upd fm k (nI (ks_ek P ca k)) j = nI (ks_ek P ca j)) (fun a ha => by rw [pk_un (by omega)]; exact i3 a ha) pk_us j hj, by rw [← z1, hu31.2, ← z2, fw_rI hg]⟩) (by (try dsimp only) <;> rfl) dX6_run_174
        · refine g_iload B dX6_run_84 7 rfl ?_
          refine g_aload B dX6_run_86 6 rfl ?_
          refine g_iconst (v := (2 : Int32)) B dX6_run_88 (by decide) ?_
          refine g_iald B hK _ 0 (tl_g1 (i := (ks_nd P ca k)) (by omega)) rfl 2 rfl (by omega) (by omega) (v := nI (P.2.2.1 (ks_nd P ca k))) (rfl) dX6_run_89 ?_
          refine g_ncmp_eq (tgt := 110) B ((ks_dg ca) (P.1 (ks_nd P ca k))) (P.2.2.1 (ks_nd P ca k)) rfl rfl (by omega) (by omega) dX6_run_90 (by decide) (fun c33 => ?_) (fun c33 => ?_)
          · refine g_iconst (v := (1 : Int32)) B dX6_run_110 (by decide) ?_
            refine g_goto (tgt := 115) B dX6_run_111 (by decide) ?_
            refine g_istore (lv' := [(0, .ref gb), (1, .int (nI ca)), (2, .ref q1), (3, .ref r_2), (4, .int (nI (ks_nd P ca k))), (5, .int (nI k)), (6, .ref (na (ks_nd P ca k))), (7, .int (nI ((ks_dg ca) (P.1 (ks_nd P ca k))))), (8, .int (1 : Int32))]) B dX6_run_115 (by decide) [1, 2, 3, 4, 5, 6, 7, 8, 0] rfl ?_
            have hso : ks_so P (ks_nd P ca k) ca = true := by unfold ks_so; split <;> (try split) <;> simp <;> omega
            refine g_aload_n B dX6_run_117 2 rfl ?_
            refine g_iload B dX6_run_118 5 rfl ?_
            refine g_iload B dX6_run_120 8 rfl ?_
            refine g_if_eq (tgt := 132) B dX6_run_122 (by decide) (fun c34 => absurd c34 (by decide)) (fun _ => ?_)
            refine g_iconst (v := (2 : Int32)) B dX6_run_125 (by decide) ?_
            refine g_iload B dX6_run_126 4 rfl ?_
            refine g_imul (v := nI (2 * (ks_nd P ca k))) B dX6_run_128 (pk_mul 2 (ks_nd P ca k)) ?_
            refine g_goto (tgt := 138) B dX6_run_129 (by decide) ?_
            refine g_eqi (y := nI (ks_ek P ca k)) (fw_ek1 hso) ?_
            have hg : ks_go P (ks_nd P ca k) = true := ks_go_of i4 c8
            have hek : ks_ek P ca k < 24 := (ks_eg_lt i4).1
            refine g_iast B hK 2 0 rfl rfl k rfl (by omega) (by omega) (f2 := (upd fm k (nI (ks_ek P ca k)))) (rfl) (w2 := ([(gb, .inr (6, [.ref hb, .ref b, .int (nI dw), .ref gn, .ref gv, .int (nI sd), .ref gk, .ref gr])), (gn, .inl (cQ, 12, .inr (.inr (.inr (.inr (fun i => some (na i))))))), (q1, .inl (cI, 31, .inl (upd fm k (nI (ks_ek P ca k))))), (r_2, .inl (cI, 4, .inl (fun i => nI ((ks_dg ca) i))))] ++ (tl_T cI 12 na (ks_nr P) 4 wa (ks_wr W) rc ra (ks_rr Q) n ka (ks_kn t S mu)))) rfl (fun _ h => h) dX6_run_138 ?_
            refine g_iload B dX6_run_139 8 rfl ?_
            refine g_if_eq (tgt := 151) B dX6_run_141 (by decide) (fun c35 => absurd c35 (by decide)) (fun _ => ?_)
            refine g_aload B dX6_run_144 6 rfl ?_
            refine g_iconst (v := (3 : Int32)) B dX6_run_146 (by decide) ?_
            refine g_iald B hK _ 0 (tl_g1 (i := (ks_nd P ca k)) (by omega)) rfl 3 rfl (by omega) (by omega) (v := ks_tI (P.2.2.2.1 (2 * (ks_nd P ca k)))) (rfl) dX6_run_147 ?_
            refine g_goto (tgt := 155) B dX6_run_148 (by decide) ?_
            refine g_eqi (y := ks_tI (P.2.2.2.1 (ks_ek P ca k))) (by rw [show ks_ek P ca k = 2 * ks_nd P ca k from by unfold ks_ek ks_eg; rw [hso]; rfl]) ?_
            refine g_istore (lv' := [(0, .ref gb), (1, .int (nI ca)), (2, .ref q1), (3, .ref r_2), (4, .int (ks_tI (P.2.2.2.1 (ks_ek P ca k)))), (5, .int (nI k)), (6, .ref (na (ks_nd P ca k))), (7, .int (nI ((ks_dg ca) (P.1 (ks_nd P ca k))))), (8, .int (1 : Int32))]) B dX6_run_155 (by decide) [1, 2, 3, 4, 0, 5, 6, 7, 8] rfl ?_
            refine g_iload B dX6_run_157 4 rfl ?_
            refine g_tif_ge (tgt := 175) B dX6_run_159 (by decide) (fun c36 => ?_) (fun c36 => ?_)
            · have e1 := (ks_step hg).1
              have hn1 : ks_nd P ca (k + 1) < 12 := by rw [e1]; exact c36
              refine g_eqlv (lv2 := [(0, .ref gb), (1, .int (nI ca)), (2, .ref q1), (3, .ref r_2), (4, .int (nI (ks_nd P ca (k + 1)))), (5, .int (nI k)), (6, .ref (na (ks_nd P ca k))), (7, .int (nI ((ks_dg ca) (P.1 (ks_nd P ca k))))), (8, .int (1 : Int32))]) (by rw [e1, ks_tI_lt c36]) ?_
              refine g_iinc (lv' := [(0, .ref gb), (1, .int (nI ca)), (2, .ref q1), (3, .ref r_2), (4, .int (nI (ks_nd P ca (k + 1)))), (5, .int (nI (k + 1))), (6, .ref (na (ks_nd P ca k))), (7, .int (nI ((ks_dg ca) (P.1 (ks_nd P ca k))))), (8, .int (1 : Int32))]) B dX6_run_175 5 rfl (nI_1 k) (by decide) [1, 2, 3, 4, 5, 0, 6, 7, 8] rfl ?_
              refine g_goto (tgt := 16) B dX6_run_178 (by decide) ?_
              refine g_widen (k := 2) (n := 35) (by (try dsimp only); omega) (by (try dsimp only); omega) ?_
              have ihx37 := ih16 (k + 1, (upd fm k (nI (ks_ek P ca k))))
              try dsimp only at ihx37
              exact g_pick [0, 1, 2, 3, 4, 5] rfl (ihx37 (⟨by omega, lt_s i2 hg, lt_s (p := fun j => upd fm k (nI (ks_ek P ca k)) j = nI (ks_ek P ca j)) (fun a ha => by rw [pk_un (by omega)]; exact i3 a ha) pk_us, hn1⟩) (by (try dsimp only); omega))
            · refine g_aload_n B dX6_run_162 2 rfl ?_
              refine g_iload B dX6_run_163 5 rfl ?_
              refine g_iconst (v := (1 : Int32)) B dX6_run_165 (by decide) ?_
              refine g_iadd (v := nI (k + 1)) B dX6_run_166 (nI_add k 1) ?_
              refine g_aload_n B dX6_run_167 2 rfl ?_
              refine g_iload B dX6_run_168 5 rfl ?_
              refine g_iald B hK 2 0 rfl rfl k rfl (by omega) (by omega) (v := nI (ks_ek P ca k)) pk_us dX6_run_170 ?_
              refine g_callU (w2 := (fun (z9 : Nat × (Nat → Int32)) => [(gb, .inr (6, [.ref hb, .ref b, .int (nI dw), .ref gn, .ref gv, .int (nI sd), .ref gk, .ref gr])), (gn, .inl (cQ, 12, .inr (.inr (.inr (.inr (fun i => some (na i))))))), (q1, .inl (cI, 31, .inl (upd fm k (nI (ks_ek P ca k))))), (r_2, .inl (cI, 4, .inl (fun i => nI ((ks_dg ca) i)))), (z9.1, .inl (cI, ((k + 1) + 1), .inl z9.2))])) (g_runS B (b_told l (D := D) (cI := cI) (cL := cL) (cZ := cZ) (cQ := cQ) q1 (k + 1) (ks_ek P ca k) (upd fm k (nI (ks_ek P ca k))) (by first | with_reducible assumption | omega | assumption)) (gPw.pre (av := [.ref q1, .int (nI (k + 1)), .int (nI (ks_ek P ca k))]) (wc := [(q1, .inl (cI, 31, .inl (upd fm k (nI (ks_ek P ca k)))))]) hK hN [2] rfl (by decide)) gX6_run_X6_told rfl kd_X6_told ⟨by decide, by decide⟩ (st := []) rfl (Nat.le_of_ble_eq_true rfl) dX6_run_171 ⟨by (try dsimp only); omega, by (try dsimp only); omega⟩) hA (fun _ h => h) [2] [0, 1, 3] (wr := [(gb, .inr (6, [.ref hb, .ref b, .int (nI dw), .ref gn, .ref gv, .int (nI sd), .ref gk, .ref gr])), (gn, .inl (cQ, 12, .inr (.inr (.inr (.inr (fun i => some (na i))))))), (r_2, .inl (cI, 4, .inl (fun i => nI ((ks_dg ca) i))))]) rfl rfl (by decide) (by decide) [0, 1, 3, 2, 4] (by decide) (fun _ => rfl) (fun u hu => ?_)
              obtain ⟨r_38, h_38⟩ := u
              try dsimp only at hu ⊢
              have hu38 := hu
              have hnx : ¬ ks_nd P ca (k + 1) < 12 := by rw [(ks_step hg).1]; exact c36
              obtain ⟨z1, z2, z3⟩ := fw_A (by omega) (lt_s i2 hg) hnx
              refine g_eqw (w2 := ([(gb, .inr (6, [.ref hb, .ref b, .int (nI dw), .ref gn, .ref gv, .int (nI sd), .ref gk, .ref gr])), (gn, .inl (cQ, 12, .inr (.inr (.inr (.inr (fun i => some (na i))))))), (q1, .inl (cI, 31, .inl (upd fm k (nI (ks_ek P ca k))))), (r_2, .inl (cI, 4, .inl (fun i => nI ((ks_dg ca) i)))), (r_38, .inl (cI, (ks_st P ca + 1), .inl h_38))] ++ (tl_T cI 12 na (ks_nr P) 4 wa (ks_wr W) rc ra (ks_rr Q) n ka (ks_kn t S mu)))) (by rw [show ks_st P ca = k + 1 by omega]) ?_
              refine g_widen (k := 3) (n := 66) (by (try dsimp only); omega) (by (try dsimp only); omega) ?_
              refine g_subT (X2 := [(gb, .inr (6, [.ref hb, .ref b, .int (nI dw), .ref gn, .ref gv, .int (nI sd), .ref gk, .ref gr])), (gn, .inl (cQ, 12, .inr (.inr (.inr (.inr (fun i => some (na i))))))), (r_38, .inl (cI, (ks_st P ca + 1), .inl h_38))]) [0, 1, 4] (by decide) rfl ?_
              exact g_aret_x B hr (Or.inr ⟨_, rfl⟩) hlocks (r_38, h_38) (rfl) (by (try dsimp only); exact ⟨fun j hj => by rw [← z1] at hj; rw [hu38.1 j hj]; exact lt_s (p := fun j => upd fm k (nI (ks_ek P ca k)) j = nI (ks_ek P ca j)) (fun a ha => by rw [pk_un (by omega)]; exact i3 a ha) pk_us j hj, by rw [← z1, hu38.2, ← z2, fw_rI hg]⟩) (by (try dsimp only) <;> rfl) dX6_run_174
          · refine g_aload B dX6_run_93 6 rfl ?_
            refine g_iconst (v := (1 : Int32)) B dX6_run_95 (by decide) ?_
            refine g_iald B hK _ 0 (tl_g1 (i := (ks_nd P ca k)) (by omega)) rfl 1 rfl (by omega) (by omega) (v := nI (P.2.1 (ks_nd P ca k))) (rfl) dX6_run_96 ?_
            refine g_iconst (v := (2 : Int32)) B dX6_run_97 (by decide) ?_
            refine g_ncmp_ne (tgt := 114) B (P.2.1 (ks_nd P ca k)) 2 rfl rfl (by omega) (by omega) dX6_run_98 (by decide) (fun c40 => ?_) (fun c40 => ?_)
            · refine g_iconst (v := (0 : Int32)) B dX6_run_114 (by decide) ?_
              refine g_istore (lv' := [(0, .ref gb), (1, .int (nI ca)), (2, .ref q1), (3, .ref r_2), (4, .int (nI (ks_nd P ca k))), (5, .int (nI k)), (6, .ref (na (ks_nd P ca k))), (7, .int (nI ((ks_dg ca) (P.1 (ks_nd P ca k))))), (8, .int (0 : Int32))]) B dX6_run_115 (by decide) [1, 2, 3, 4, 5, 6, 7, 8, 0] rfl ?_
              have hso : ks_so P (ks_nd P ca k) ca = false := by unfold ks_so; split <;> (try split) <;> simp <;> omega
              refine g_aload_n B dX6_run_117 2 rfl ?_
              refine g_iload B dX6_run_118 5 rfl ?_
              refine g_iload B dX6_run_120 8 rfl ?_
              refine g_if_eq (tgt := 132) B dX6_run_122 (by decide) (fun _ => ?_) (fun c41 => absurd (by decide) c41)
              refine g_iconst (v := (2 : Int32)) B dX6_run_132 (by decide) ?_
              refine g_iload B dX6_run_133 4 rfl ?_
              refine g_imul (v := nI (2 * (ks_nd P ca k))) B dX6_run_135 (pk_mul 2 (ks_nd P ca k)) ?_
              refine g_iconst (v := (1 : Int32)) B dX6_run_136 (by decide) ?_
              refine g_iadd (v := nI ((2 * (ks_nd P ca k)) + 1)) B dX6_run_137 (nI_add (2 * (ks_nd P ca k)) 1) ?_
              refine g_eqi (y := nI (ks_ek P ca k)) (fw_ek0 hso) ?_
              have hg : ks_go P (ks_nd P ca k) = true := ks_go_of i4 c8
              have hek : ks_ek P ca k < 24 := (ks_eg_lt i4).1
              refine g_iast B hK 2 0 rfl rfl k rfl (by omega) (by omega) (f2 := (upd fm k (nI (ks_ek P ca k)))) (rfl) (w2 := ([(gb, .inr (6, [.ref hb, .ref b, .int (nI dw), .ref gn, .ref gv, .int (nI sd), .ref gk, .ref gr])), (gn, .inl (cQ, 12, .inr (.inr (.inr (.inr (fun i => some (na i))))))), (q1, .inl (cI, 31, .inl (upd fm k (nI (ks_ek P ca k))))), (r_2, .inl (cI, 4, .inl (fun i => nI ((ks_dg ca) i))))] ++ (tl_T cI 12 na (ks_nr P) 4 wa (ks_wr W) rc ra (ks_rr Q) n ka (ks_kn t S mu)))) rfl (fun _ h => h) dX6_run_138 ?_
              refine g_iload B dX6_run_139 8 rfl ?_
              refine g_if_eq (tgt := 151) B dX6_run_141 (by decide) (fun _ => ?_) (fun c42 => absurd (by decide) c42)
              refine g_aload B dX6_run_151 6 rfl ?_
              refine g_iconst (v := (4 : Int32)) B dX6_run_153 (by decide) ?_
              refine g_iald B hK _ 0 (tl_g1 (i := (ks_nd P ca k)) (by omega)) rfl 4 rfl (by omega) (by omega) (v := ks_tI (P.2.2.2.1 (2 * (ks_nd P ca k) + 1))) (rfl) dX6_run_154 ?_
              refine g_eqi (y := ks_tI (P.2.2.2.1 (ks_ek P ca k))) (by rw [show ks_ek P ca k = 2 * ks_nd P ca k + 1 from by unfold ks_ek ks_eg; rw [hso]; rfl]) ?_
              refine g_istore (lv' := [(0, .ref gb), (1, .int (nI ca)), (2, .ref q1), (3, .ref r_2), (4, .int (ks_tI (P.2.2.2.1 (ks_ek P ca k)))), (5, .int (nI k)), (6, .ref (na (ks_nd P ca k))), (7, .int (nI ((ks_dg ca) (P.1 (ks_nd P ca k))))), (8, .int (0 : Int32))]) B dX6_run_155 (by decide) [1, 2, 3, 4, 0, 5, 6, 7, 8] rfl ?_
              refine g_iload B dX6_run_157 4 rfl ?_
              refine g_tif_ge (tgt := 175) B dX6_run_159 (by decide) (fun c43 => ?_) (fun c43 => ?_)
              · have e1 := (ks_step hg).1
                have hn1 : ks_nd P ca (k + 1) < 12 := by rw [e1]; exact c43
                refine g_eqlv (lv2 := [(0, .ref gb), (1, .int (nI ca)), (2, .ref q1), (3, .ref r_2), (4, .int (nI (ks_nd P ca (k + 1)))), (5, .int (nI k)), (6, .ref (na (ks_nd P ca k))), (7, .int (nI ((ks_dg ca) (P.1 (ks_nd P ca k))))), (8, .int (0 : Int32))]) (by rw [e1, ks_tI_lt c43]) ?_
                refine g_iinc (lv' := [(0, .ref gb), (1, .int (nI ca)), (2, .ref q1), (3, .ref r_2), (4, .int (nI (ks_nd P ca (k + 1)))), (5, .int (nI (k + 1))), (6, .ref (na (ks_nd P ca k))), (7, .int (nI ((ks_dg ca) (P.1 (ks_nd P ca k))))), (8, .int (0 : Int32))]) B dX6_run_175 5 rfl (nI_1 k) (by decide) [1, 2, 3, 4, 5, 0, 6, 7, 8] rfl ?_
                refine g_goto (tgt := 16) B dX6_run_178 (by decide) ?_
                refine g_widen (k := 2) (n := 35) (by (try dsimp only); omega) (by (try dsimp only); omega) ?_
                have ihx44 := ih16 (k + 1, (upd fm k (nI (ks_ek P ca k))))
                try dsimp only at ihx44
                exact g_pick [0, 1, 2, 3, 4, 5] rfl (ihx44 (⟨by omega, lt_s i2 hg, lt_s (p := fun j => upd fm k (nI (ks_ek P ca k)) j = nI (ks_ek P ca j)) (fun a ha => by rw [pk_un (by omega)]; exact i3 a ha) pk_us, hn1⟩) (by (try dsimp only); omega))
              · refine g_aload_n B dX6_run_162 2 rfl ?_
                refine g_iload B dX6_run_163 5 rfl ?_
                refine g_iconst (v := (1 : Int32)) B dX6_run_165 (by decide) ?_
                refine g_iadd (v := nI (k + 1)) B dX6_run_166 (nI_add k 1) ?_
                refine g_aload_n B dX6_run_167 2 rfl ?_
                refine g_iload B dX6_run_168 5 rfl ?_
                refine g_iald B hK 2 0 rfl rfl k rfl (by omega) (by omega) (v := nI (ks_ek P ca k)) pk_us dX6_run_170 ?_
                refine g_callU (w2 := (fun (z9 : Nat × (Nat → Int32)) => [(gb, .inr (6, [.ref hb, .ref b, .int (nI dw), .ref gn, .ref gv, .int (nI sd), .ref gk, .ref gr])), (gn, .inl (cQ, 12, .inr (.inr (.inr (.inr (fun i => some (na i))))))), (q1, .inl (cI, 31, .inl (upd fm k (nI (ks_ek P ca k))))), (r_2, .inl (cI, 4, .inl (fun i => nI ((ks_dg ca) i)))), (z9.1, .inl (cI, ((k + 1) + 1), .inl z9.2))])) (g_runS B (b_told l (D := D) (cI := cI) (cL := cL) (cZ := cZ) (cQ := cQ) q1 (k + 1) (ks_ek P ca k) (upd fm k (nI (ks_ek P ca k))) (by first | with_reducible assumption | omega | assumption)) (gPw.pre (av := [.ref q1, .int (nI (k + 1)), .int (nI (ks_ek P ca k))]) (wc := [(q1, .inl (cI, 31, .inl (upd fm k (nI (ks_ek P ca k)))))]) hK hN [2] rfl (by decide)) gX6_run_X6_told rfl kd_X6_told ⟨by decide, by decide⟩ (st := []) rfl (Nat.le_of_ble_eq_true rfl) dX6_run_171 ⟨by (try dsimp only); omega, by (try dsimp only); omega⟩) hA (fun _ h => h) [2] [0, 1, 3] (wr := [(gb, .inr (6, [.ref hb, .ref b, .int (nI dw), .ref gn, .ref gv, .int (nI sd), .ref gk, .ref gr])), (gn, .inl (cQ, 12, .inr (.inr (.inr (.inr (fun i => some (na i))))))), (r_2, .inl (cI, 4, .inl (fun i => nI ((ks_dg ca) i))))]) rfl rfl (by decide) (by decide) [0, 1, 3, 2, 4] (by decide) (fun _ => rfl) (fun u hu => ?_)
                obtain ⟨r_45, h_45⟩ := u
                try dsimp only at hu ⊢
                have hu45 := hu
                have hnx : ¬ ks_nd P ca (k + 1) < 12 := by rw [(ks_step hg).1]; exact c43
                obtain ⟨z1, z2, z3⟩ := fw_A (by omega) (lt_s i2 hg) hnx
                refine g_eqw (w2 := ([(gb, .inr (6, [.ref hb, .ref b, .int (nI dw), .ref gn, .ref gv, .int (nI sd), .ref gk, .ref gr])), (gn, .inl (cQ, 12, .inr (.inr (.inr (.inr (fun i => some (na i))))))), (q1, .inl (cI, 31, .inl (upd fm k (nI (ks_ek P ca k))))), (r_2, .inl (cI, 4, .inl (fun i => nI ((ks_dg ca) i)))), (r_45, .inl (cI, (ks_st P ca + 1), .inl h_45))] ++ (tl_T cI 12 na (ks_nr P) 4 wa (ks_wr W) rc ra (ks_rr Q) n ka (ks_kn t S mu)))) (by rw [show ks_st P ca = k + 1 by omega]) ?_
                refine g_widen (k := 3) (n := 66) (by (try dsimp only); omega) (by (try dsimp only); omega) ?_
                refine g_subT (X2 := [(gb, .inr (6, [.ref hb, .ref b, .int (nI dw), .ref gn, .ref gv, .int (nI sd), .ref gk, .ref gr])), (gn, .inl (cQ, 12, .inr (.inr (.inr (.inr (fun i => some (na i))))))), (r_45, .inl (cI, (ks_st P ca + 1), .inl h_45))]) [0, 1, 4] (by decide) rfl ?_
                exact g_aret_x B hr (Or.inr ⟨_, rfl⟩) hlocks (r_45, h_45) (rfl) (by (try dsimp only); exact ⟨fun j hj => by rw [← z1] at hj; rw [hu45.1 j hj]; exact lt_s (p := fun j => upd fm k (nI (ks_ek P ca k)) j = nI (ks_ek P ca j)) (fun a ha => by rw [pk_un (by omega)]; exact i3 a ha) pk_us j hj, by rw [← z1, hu45.2, ← z2, fw_rI hg]⟩) (by (try dsimp only) <;> rfl) dX6_run_174
            · refine g_iload B dX6_run_101 7 rfl ?_
              refine g_aload B dX6_run_103 6 rfl ?_
              refine g_iconst (v := (2 : Int32)) B dX6_run_105 (by decide) ?_
              refine g_iald B hK _ 0 (tl_g1 (i := (ks_nd P ca k)) (by omega)) rfl 2 rfl (by omega) (by omega) (v := nI (P.2.2.1 (ks_nd P ca k))) (rfl) dX6_run_106 ?_
              refine g_ncmp_le (tgt := 114) B ((ks_dg ca) (P.1 (ks_nd P ca k))) (P.2.2.1 (ks_nd P ca k)) rfl rfl (by omega) (by omega) dX6_run_107 (by decide) (fun c47 => ?_) (fun c47 => ?_)
              · refine g_iconst (v := (0 : Int32)) B dX6_run_114 (by decide) ?_
                refine g_istore (lv' := [(0, .ref gb), (1, .int (nI ca)), (2, .ref q1), (3, .ref r_2), (4, .int (nI (ks_nd P ca k))), (5, .int (nI k)), (6, .ref (na (ks_nd P ca k))), (7, .int (nI ((ks_dg ca) (P.1 (ks_nd P ca k))))), (8, .int (0 : Int32))]) B dX6_run_115 (by decide) [1, 2, 3, 4, 5, 6, 7, 8, 0] rfl ?_
                have hso : ks_so P (ks_nd P ca k) ca = false := by unfold ks_so; split <;> (try split) <;> simp <;> omega
                refine g_aload_n B dX6_run_117 2 rfl ?_
                refine g_iload B dX6_run_118 5 rfl ?_
                refine g_iload B dX6_run_120 8 rfl ?_
                refine g_if_eq (tgt := 132) B dX6_run_122 (by decide) (fun _ => ?_) (fun c48 => absurd (by decide) c48)
                refine g_iconst (v := (2 : Int32)) B dX6_run_132 (by decide) ?_
                refine g_iload B dX6_run_133 4 rfl ?_
                refine g_imul (v := nI (2 * (ks_nd P ca k))) B dX6_run_135 (pk_mul 2 (ks_nd P ca k)) ?_
                refine g_iconst (v := (1 : Int32)) B dX6_run_136 (by decide) ?_
                refine g_iadd (v := nI ((2 * (ks_nd P ca k)) + 1)) B dX6_run_137 (nI_add (2 * (ks_nd P ca k)) 1) ?_
                refine g_eqi (y := nI (ks_ek P ca k)) (fw_ek0 hso) ?_
                have hg : ks_go P (ks_nd P ca k) = true := ks_go_of i4 c8
                have hek : ks_ek P ca k < 24 := (ks_eg_lt i4).1
                refine g_iast B hK 2 0 rfl rfl k rfl (by omega) (by omega) (f2 := (upd fm k (nI (ks_ek P ca k)))) (rfl) (w2 := ([(gb, .inr (6, [.ref hb, .ref b, .int (nI dw), .ref gn, .ref gv, .int (nI sd), .ref gk, .ref gr])), (gn, .inl (cQ, 12, .inr (.inr (.inr (.inr (fun i => some (na i))))))), (q1, .inl (cI, 31, .inl (upd fm k (nI (ks_ek P ca k))))), (r_2, .inl (cI, 4, .inl (fun i => nI ((ks_dg ca) i))))] ++ (tl_T cI 12 na (ks_nr P) 4 wa (ks_wr W) rc ra (ks_rr Q) n ka (ks_kn t S mu)))) rfl (fun _ h => h) dX6_run_138 ?_
                refine g_iload B dX6_run_139 8 rfl ?_
                refine g_if_eq (tgt := 151) B dX6_run_141 (by decide) (fun _ => ?_) (fun c49 => absurd (by decide) c49)
                refine g_aload B dX6_run_151 6 rfl ?_
                refine g_iconst (v := (4 : Int32)) B dX6_run_153 (by decide) ?_
                refine g_iald B hK _ 0 (tl_g1 (i := (ks_nd P ca k)) (by omega)) rfl 4 rfl (by omega) (by omega) (v := ks_tI (P.2.2.2.1 (2 * (ks_nd P ca k) + 1))) (rfl) dX6_run_154 ?_
                refine g_eqi (y := ks_tI (P.2.2.2.1 (ks_ek P ca k))) (by rw [show ks_ek P ca k = 2 * ks_nd P ca k + 1 from by unfold ks_ek ks_eg; rw [hso]; rfl]) ?_
                refine g_istore (lv' := [(0, .ref gb), (1, .int (nI ca)), (2, .ref q1), (3, .ref r_2), (4, .int (ks_tI (P.2.2.2.1 (ks_ek P ca k)))), (5, .int (nI k)), (6, .ref (na (ks_nd P ca k))), (7, .int (nI ((ks_dg ca) (P.1 (ks_nd P ca k))))), (8, .int (0 : Int32))]) B dX6_run_155 (by decide) [1, 2, 3, 4, 0, 5, 6, 7, 8] rfl ?_
                refine g_iload B dX6_run_157 4 rfl ?_
                refine g_tif_ge (tgt := 175) B dX6_run_159 (by decide) (fun c50 => ?_) (fun c50 => ?_)
                · have e1 := (ks_step hg).1
                  have hn1 : ks_nd P ca (k + 1) < 12 := by rw [e1]; exact c50
                  refine g_eqlv (lv2 := [(0, .ref gb), (1, .int (nI ca)), (2, .ref q1), (3, .ref r_2), (4, .int (nI (ks_nd P ca (k + 1)))), (5, .int (nI k)), (6, .ref (na (ks_nd P ca k))), (7, .int (nI ((ks_dg ca) (P.1 (ks_nd P ca k))))), (8, .int (0 : Int32))]) (by rw [e1, ks_tI_lt c50]) ?_
                  refine g_iinc (lv' := [(0, .ref gb), (1, .int (nI ca)), (2, .ref q1), (3, .ref r_2), (4, .int (nI (ks_nd P ca (k + 1)))), (5, .int (nI (k + 1))), (6, .ref (na (ks_nd P ca k))), (7, .int (nI ((ks_dg ca) (P.1 (ks_nd P ca k))))), (8, .int (0 : Int32))]) B dX6_run_175 5 rfl (nI_1 k) (by decide) [1, 2, 3, 4, 5, 0, 6, 7, 8] rfl ?_
                  refine g_goto (tgt := 16) B dX6_run_178 (by decide) ?_
                  refine g_widen (k := 2) (n := 35) (by (try dsimp only); omega) (by (try dsimp only); omega) ?_
                  have ihx51 := ih16 (k + 1, (upd fm k (nI (ks_ek P ca k))))
                  try dsimp only at ihx51
                  exact g_pick [0, 1, 2, 3, 4, 5] rfl (ihx51 (⟨by omega, lt_s i2 hg, lt_s (p := fun j => upd fm k (nI (ks_ek P ca k)) j = nI (ks_ek P ca j)) (fun a ha => by rw [pk_un (by omega)]; exact i3 a ha) pk_us, hn1⟩) (by (try dsimp only); omega))
                · refine g_aload_n B dX6_run_162 2 rfl ?_
                  refine g_iload B dX6_run_163 5 rfl ?_
                  refine g_iconst (v := (1 : Int32)) B dX6_run_165 (by decide) ?_
                  refine g_iadd (v := nI (k + 1)) B dX6_run_166 (nI_add k 1) ?_
                  refine g_aload_n B dX6_run_167 2 rfl ?_
                  refine g_iload B dX6_run_168 5 rfl ?_
                  refine g_iald B hK 2 0 rfl rfl k rfl (by omega) (by omega) (v := nI (ks_ek P ca k)) pk_us dX6_run_170 ?_
                  refine g_callU (w2 := (fun (z9 : Nat × (Nat → Int32)) => [(gb, .inr (6, [.ref hb, .ref b, .int (nI dw), .ref gn, .ref gv, .int (nI sd), .ref gk, .ref gr])), (gn, .inl (cQ, 12, .inr (.inr (.inr (.inr (fun i => some (na i))))))), (q1, .inl (cI, 31, .inl (upd fm k (nI (ks_ek P ca k))))), (r_2, .inl (cI, 4, .inl (fun i => nI ((ks_dg ca) i)))), (z9.1, .inl (cI, ((k + 1) + 1), .inl z9.2))])) (g_runS B (b_told l (D := D) (cI := cI) (cL := cL) (cZ := cZ) (cQ := cQ) q1 (k + 1) (ks_ek P ca k) (upd fm k (nI (ks_ek P ca k))) (by first | with_reducible assumption | omega | assumption)) (gPw.pre (av := [.ref q1, .int (nI (k + 1)), .int (nI (ks_ek P ca k))]) (wc := [(q1, .inl (cI, 31, .inl (upd fm k (nI (ks_ek P ca k)))))]) hK hN [2] rfl (by decide)) gX6_run_X6_told rfl kd_X6_told ⟨by decide, by decide⟩ (st := []) rfl (Nat.le_of_ble_eq_true rfl) dX6_run_171 ⟨by (try dsimp only); omega, by (try dsimp only); omega⟩) hA (fun _ h => h) [2] [0, 1, 3] (wr := [(gb, .inr (6, [.ref hb, .ref b, .int (nI dw), .ref gn, .ref gv, .int (nI sd), .ref gk, .ref gr])), (gn, .inl (cQ, 12, .inr (.inr (.inr (.inr (fun i => some (na i))))))), (r_2, .inl (cI, 4, .inl (fun i => nI ((ks_dg ca) i))))]) rfl rfl (by decide) (by decide) [0, 1, 3, 2, 4] (by decide) (fun _ => rfl) (fun u hu => ?_)
                  obtain ⟨r_52, h_52⟩ := u
                  try dsimp only at hu ⊢
                  have hu52 := hu
                  have hnx : ¬ ks_nd P ca (k + 1) < 12 := by rw [(ks_step hg).1]; exact c50
                  obtain ⟨z1, z2, z3⟩ := fw_A (by omega) (lt_s i2 hg) hnx
                  refine g_eqw (w2 := ([(gb, .inr (6, [.ref hb, .ref b, .int (nI dw), .ref gn, .ref gv, .int (nI sd), .ref gk, .ref gr])), (gn, .inl (cQ, 12, .inr (.inr (.inr (.inr (fun i => some (na i))))))), (q1, .inl (cI, 31, .inl (upd fm k (nI (ks_ek P ca k))))), (r_2, .inl (cI, 4, .inl (fun i => nI ((ks_dg ca) i)))), (r_52, .inl (cI, (ks_st P ca + 1), .inl h_52))] ++ (tl_T cI 12 na (ks_nr P) 4 wa (ks_wr W) rc ra (ks_rr Q) n ka (ks_kn t S mu)))) (by rw [show ks_st P ca = k + 1 by omega]) ?_
                  refine g_widen (k := 3) (n := 66) (by (try dsimp only); omega) (by (try dsimp only); omega) ?_
                  refine g_subT (X2 := [(gb, .inr (6, [.ref hb, .ref b, .int (nI dw), .ref gn, .ref gv, .int (nI sd), .ref gk, .ref gr])), (gn, .inl (cQ, 12, .inr (.inr (.inr (.inr (fun i => some (na i))))))), (r_52, .inl (cI, (ks_st P ca + 1), .inl h_52))]) [0, 1, 4] (by decide) rfl ?_
                  exact g_aret_x B hr (Or.inr ⟨_, rfl⟩) hlocks (r_52, h_52) (rfl) (by (try dsimp only); exact ⟨fun j hj => by rw [← z1] at hj; rw [hu52.1 j hj]; exact lt_s (p := fun j => upd fm k (nI (ks_ek P ca k)) j = nI (ks_ek P ca j)) (fun a ha => by rw [pk_un (by omega)]; exact i3 a ha) pk_us j hj, by rw [← z1, hu52.2, ← z2, fw_rI hg]⟩) (by (try dsimp only) <;> rfl) dX6_run_174
              · refine g_iconst (v := (1 : Int32)) B dX6_run_110 (by decide) ?_
                refine g_goto (tgt := 115) B dX6_run_111 (by decide) ?_
                refine g_istore (lv' := [(0, .ref gb), (1, .int (nI ca)), (2, .ref q1), (3, .ref r_2), (4, .int (nI (ks_nd P ca k))), (5, .int (nI k)), (6, .ref (na (ks_nd P ca k))), (7, .int (nI ((ks_dg ca) (P.1 (ks_nd P ca k))))), (8, .int (1 : Int32))]) B dX6_run_115 (by decide) [1, 2, 3, 4, 5, 6, 7, 8, 0] rfl ?_
                have hso : ks_so P (ks_nd P ca k) ca = true := by unfold ks_so; split <;> (try split) <;> simp <;> omega
                refine g_aload_n B dX6_run_117 2 rfl ?_
                refine g_iload B dX6_run_118 5 rfl ?_
                refine g_iload B dX6_run_120 8 rfl ?_
                refine g_if_eq (tgt := 132) B dX6_run_122 (by decide) (fun c53 => absurd c53 (by decide)) (fun _ => ?_)
                refine g_iconst (v := (2 : Int32)) B dX6_run_125 (by decide) ?_
                refine g_iload B dX6_run_126 4 rfl ?_
                refine g_imul (v := nI (2 * (ks_nd P ca k))) B dX6_run_128 (pk_mul 2 (ks_nd P ca k)) ?_
                refine g_goto (tgt := 138) B dX6_run_129 (by decide) ?_
                refine g_eqi (y := nI (ks_ek P ca k)) (fw_ek1 hso) ?_
                have hg : ks_go P (ks_nd P ca k) = true := ks_go_of i4 c8
                have hek : ks_ek P ca k < 24 := (ks_eg_lt i4).1
                refine g_iast B hK 2 0 rfl rfl k rfl (by omega) (by omega) (f2 := (upd fm k (nI (ks_ek P ca k)))) (rfl) (w2 := ([(gb, .inr (6, [.ref hb, .ref b, .int (nI dw), .ref gn, .ref gv, .int (nI sd), .ref gk, .ref gr])), (gn, .inl (cQ, 12, .inr (.inr (.inr (.inr (fun i => some (na i))))))), (q1, .inl (cI, 31, .inl (upd fm k (nI (ks_ek P ca k))))), (r_2, .inl (cI, 4, .inl (fun i => nI ((ks_dg ca) i))))] ++ (tl_T cI 12 na (ks_nr P) 4 wa (ks_wr W) rc ra (ks_rr Q) n ka (ks_kn t S mu)))) rfl (fun _ h => h) dX6_run_138 ?_
                refine g_iload B dX6_run_139 8 rfl ?_
                refine g_if_eq (tgt := 151) B dX6_run_141 (by decide) (fun c54 => absurd c54 (by decide)) (fun _ => ?_)
                refine g_aload B dX6_run_144 6 rfl ?_
                refine g_iconst (v := (3 : Int32)) B dX6_run_146 (by decide) ?_
                refine g_iald B hK _ 0 (tl_g1 (i := (ks_nd P ca k)) (by omega)) rfl 3 rfl (by omega) (by omega) (v := ks_tI (P.2.2.2.1 (2 * (ks_nd P ca k)))) (rfl) dX6_run_147 ?_
                refine g_goto (tgt := 155) B dX6_run_148 (by decide) ?_
                refine g_eqi (y := ks_tI (P.2.2.2.1 (ks_ek P ca k))) (by rw [show ks_ek P ca k = 2 * ks_nd P ca k from by unfold ks_ek ks_eg; rw [hso]; rfl]) ?_
                refine g_istore (lv' := [(0, .ref gb), (1, .int (nI ca)), (2, .ref q1), (3, .ref r_2), (4, .int (ks_tI (P.2.2.2.1 (ks_ek P ca k)))), (5, .int (nI k)), (6, .ref (na (ks_nd P ca k))), (7, .int (nI ((ks_dg ca) (P.1 (ks_nd P ca k))))), (8, .int (1 : Int32))]) B dX6_run_155 (by decide) [1, 2, 3, 4, 0, 5, 6, 7, 8] rfl ?_
                refine g_iload B dX6_run_157 4 rfl ?_
                refine g_tif_ge (tgt := 175) B dX6_run_159 (by decide) (fun c55 => ?_) (fun c55 => ?_)
                · have e1 := (ks_step hg).1
                  have hn1 : ks_nd P ca (k + 1) < 12 := by rw [e1]; exact c55
                  refine g_eqlv (lv2 := [(0, .ref gb), (1, .int (nI ca)), (2, .ref q1), (3, .ref r_2), (4, .int (nI (ks_nd P ca (k + 1)))), (5, .int (nI k)), (6, .ref (na (ks_nd P ca k))), (7, .int (nI ((ks_dg ca) (P.1 (ks_nd P ca k))))), (8, .int (1 : Int32))]) (by rw [e1, ks_tI_lt c55]) ?_
                  refine g_iinc (lv' := [(0, .ref gb), (1, .int (nI ca)), (2, .ref q1), (3, .ref r_2), (4, .int (nI (ks_nd P ca (k + 1)))), (5, .int (nI (k + 1))), (6, .ref (na (ks_nd P ca k))), (7, .int (nI ((ks_dg ca) (P.1 (ks_nd P ca k))))), (8, .int (1 : Int32))]) B dX6_run_175 5 rfl (nI_1 k) (by decide) [1, 2, 3, 4, 5, 0, 6, 7, 8] rfl ?_
                  refine g_goto (tgt := 16) B dX6_run_178 (by decide) ?_
                  refine g_widen (k := 2) (n := 35) (by (try dsimp only); omega) (by (try dsimp only); omega) ?_
                  have ihx56 := ih16 (k + 1, (upd fm k (nI (ks_ek P ca k))))
                  try dsimp only at ihx56
                  exact g_pick [0, 1, 2, 3, 4, 5] rfl (ihx56 (⟨by omega, lt_s i2 hg, lt_s (p := fun j => upd fm k (nI (ks_ek P ca k)) j = nI (ks_ek P ca j)) (fun a ha => by rw [pk_un (by omega)]; exact i3 a ha) pk_us, hn1⟩) (by (try dsimp only); omega))
                · refine g_aload_n B dX6_run_162 2 rfl ?_
                  refine g_iload B dX6_run_163 5 rfl ?_
                  refine g_iconst (v := (1 : Int32)) B dX6_run_165 (by decide) ?_
                  refine g_iadd (v := nI (k + 1)) B dX6_run_166 (nI_add k 1) ?_
                  refine g_aload_n B dX6_run_167 2 rfl ?_
                  refine g_iload B dX6_run_168 5 rfl ?_
                  refine g_iald B hK 2 0 rfl rfl k rfl (by omega) (by omega) (v := nI (ks_ek P ca k)) pk_us dX6_run_170 ?_
                  refine g_callU (w2 := (fun (z9 : Nat × (Nat → Int32)) => [(gb, .inr (6, [.ref hb, .ref b, .int (nI dw), .ref gn, .ref gv, .int (nI sd), .ref gk, .ref gr])), (gn, .inl (cQ, 12, .inr (.inr (.inr (.inr (fun i => some (na i))))))), (q1, .inl (cI, 31, .inl (upd fm k (nI (ks_ek P ca k))))), (r_2, .inl (cI, 4, .inl (fun i => nI ((ks_dg ca) i)))), (z9.1, .inl (cI, ((k + 1) + 1), .inl z9.2))])) (g_runS B (b_told l (D := D) (cI := cI) (cL := cL) (cZ := cZ) (cQ := cQ) q1 (k + 1) (ks_ek P ca k) (upd fm k (nI (ks_ek P ca k))) (by first | with_reducible assumption | omega | assumption)) (gPw.pre (av := [.ref q1, .int (nI (k + 1)), .int (nI (ks_ek P ca k))]) (wc := [(q1, .inl (cI, 31, .inl (upd fm k (nI (ks_ek P ca k)))))]) hK hN [2] rfl (by decide)) gX6_run_X6_told rfl kd_X6_told ⟨by decide, by decide⟩ (st := []) rfl (Nat.le_of_ble_eq_true rfl) dX6_run_171 ⟨by (try dsimp only); omega, by (try dsimp only); omega⟩) hA (fun _ h => h) [2] [0, 1, 3] (wr := [(gb, .inr (6, [.ref hb, .ref b, .int (nI dw), .ref gn, .ref gv, .int (nI sd), .ref gk, .ref gr])), (gn, .inl (cQ, 12, .inr (.inr (.inr (.inr (fun i => some (na i))))))), (r_2, .inl (cI, 4, .inl (fun i => nI ((ks_dg ca) i))))]) rfl rfl (by decide) (by decide) [0, 1, 3, 2, 4] (by decide) (fun _ => rfl) (fun u hu => ?_)
                  obtain ⟨r_57, h_57⟩ := u
                  try dsimp only at hu ⊢
                  have hu57 := hu
                  have hnx : ¬ ks_nd P ca (k + 1) < 12 := by rw [(ks_step hg).1]; exact c55
                  obtain ⟨z1, z2, z3⟩ := fw_A (by omega) (lt_s i2 hg) hnx
                  refine g_eqw (w2 := ([(gb, .inr (6, [.ref hb, .ref b, .int (nI dw), .ref gn, .ref gv, .int (nI sd), .ref gk, .ref gr])), (gn, .inl (cQ, 12, .inr (.inr (.inr (.inr (fun i => some (na i))))))), (q1, .inl (cI, 31, .inl (upd fm k (nI (ks_ek P ca k))))), (r_2, .inl (cI, 4, .inl (fun i => nI ((ks_dg ca) i)))), (r_57, .inl (cI, (ks_st P ca + 1), .inl h_57))] ++ (tl_T cI 12 na (ks_nr P) 4 wa (ks_wr W) rc ra (ks_rr Q) n ka (ks_kn t S mu)))) (by rw [show ks_st P ca = k + 1 by omega]) ?_
                  refine g_widen (k := 3) (n := 66) (by (try dsimp only); omega) (by (try dsimp only); omega) ?_
                  refine g_subT (X2 := [(gb, .inr (6, [.ref hb, .ref b, .int (nI dw), .ref gn, .ref gv, .int (nI sd), .ref gk, .ref gr])), (gn, .inl (cQ, 12, .inr (.inr (.inr (.inr (fun i => some (na i))))))), (r_57, .inl (cI, (ks_st P ca + 1), .inl h_57))]) [0, 1, 4] (by decide) rfl ?_
                  exact g_aret_x B hr (Or.inr ⟨_, rfl⟩) hlocks (r_57, h_57) (rfl) (by (try dsimp only); exact ⟨fun j hj => by rw [← z1] at hj; rw [hu57.1 j hj]; exact lt_s (p := fun j => upd fm k (nI (ks_ek P ca k)) j = nI (ks_ek P ca j)) (fun a ha => by rw [pk_un (by omega)]; exact i3 a ha) pk_us j hj, by rw [← z1, hu57.2, ← z2, fw_rI hg]⟩) (by (try dsimp only) <;> rfl) dX6_run_174
      · refine g_iload B dX6_run_67 7 rfl ?_
        refine g_aload B dX6_run_69 6 rfl ?_
        refine g_iconst (v := (2 : Int32)) B dX6_run_71 (by decide) ?_
        refine g_iald B hK _ 0 (tl_g1 (i := (ks_nd P ca k)) (by omega)) rfl 2 rfl (by omega) (by omega) (v := nI (P.2.2.1 (ks_nd P ca k))) (rfl) dX6_run_72 ?_
        refine g_ncmp_lt (tgt := 110) B ((ks_dg ca) (P.1 (ks_nd P ca k))) (P.2.2.1 (ks_nd P ca k)) rfl rfl (by omega) (by omega) dX6_run_73 (by decide) (fun c59 => ?_) (fun c59 => ?_)
        · refine g_iconst (v := (1 : Int32)) B dX6_run_110 (by decide) ?_
          refine g_goto (tgt := 115) B dX6_run_111 (by decide) ?_
          refine g_istore (lv' := [(0, .ref gb), (1, .int (nI ca)), (2, .ref q1), (3, .ref r_2), (4, .int (nI (ks_nd P ca k))), (5, .int (nI k)), (6, .ref (na (ks_nd P ca k))), (7, .int (nI ((ks_dg ca) (P.1 (ks_nd P ca k))))), (8, .int (1 : Int32))]) B dX6_run_115 (by decide) [1, 2, 3, 4, 5, 6, 7, 8, 0] rfl ?_
          have hso : ks_so P (ks_nd P ca k) ca = true := by unfold ks_so; split <;> (try split) <;> simp <;> omega
          refine g_aload_n B dX6_run_117 2 rfl ?_
          refine g_iload B dX6_run_118 5 rfl ?_
          refine g_iload B dX6_run_120 8 rfl ?_
          refine g_if_eq (tgt := 132) B dX6_run_122 (by decide) (fun c60 => absurd c60 (by decide)) (fun _ => ?_)
          refine g_iconst (v := (2 : Int32)) B dX6_run_125 (by decide) ?_
          refine g_iload B dX6_run_126 4 rfl ?_
          refine g_imul (v := nI (2 * (ks_nd P ca k))) B dX6_run_128 (pk_mul 2 (ks_nd P ca k)) ?_
          refine g_goto (tgt := 138) B dX6_run_129 (by decide) ?_
          refine g_eqi (y := nI (ks_ek P ca k)) (fw_ek1 hso) ?_
          have hg : ks_go P (ks_nd P ca k) = true := ks_go_of i4 c8
          have hek : ks_ek P ca k < 24 := (ks_eg_lt i4).1
          refine g_iast B hK 2 0 rfl rfl k rfl (by omega) (by omega) (f2 := (upd fm k (nI (ks_ek P ca k)))) (rfl) (w2 := ([(gb, .inr (6, [.ref hb, .ref b, .int (nI dw), .ref gn, .ref gv, .int (nI sd), .ref gk, .ref gr])), (gn, .inl (cQ, 12, .inr (.inr (.inr (.inr (fun i => some (na i))))))), (q1, .inl (cI, 31, .inl (upd fm k (nI (ks_ek P ca k))))), (r_2, .inl (cI, 4, .inl (fun i => nI ((ks_dg ca) i))))] ++ (tl_T cI 12 na (ks_nr P) 4 wa (ks_wr W) rc ra (ks_rr Q) n ka (ks_kn t S mu)))) rfl (fun _ h => h) dX6_run_138 ?_
          refine g_iload B dX6_run_139 8 rfl ?_
          refine g_if_eq (tgt := 151) B dX6_run_141 (by decide) (fun c61 => absurd c61 (by decide)) (fun _ => ?_)
          refine g_aload B dX6_run_144 6 rfl ?_
          refine g_iconst (v := (3 : Int32)) B dX6_run_146 (by decide) ?_
          refine g_iald B hK _ 0 (tl_g1 (i := (ks_nd P ca k)) (by omega)) rfl 3 rfl (by omega) (by omega) (v := ks_tI (P.2.2.2.1 (2 * (ks_nd P ca k)))) (rfl) dX6_run_147 ?_
          refine g_goto (tgt := 155) B dX6_run_148 (by decide) ?_
          refine g_eqi (y := ks_tI (P.2.2.2.1 (ks_ek P ca k))) (by rw [show ks_ek P ca k = 2 * ks_nd P ca k from by unfold ks_ek ks_eg; rw [hso]; rfl]) ?_
          refine g_istore (lv' := [(0, .ref gb), (1, .int (nI ca)), (2, .ref q1), (3, .ref r_2), (4, .int (ks_tI (P.2.2.2.1 (ks_ek P ca k)))), (5, .int (nI k)), (6, .ref (na (ks_nd P ca k))), (7, .int (nI ((ks_dg ca) (P.1 (ks_nd P ca k))))), (8, .int (1 : Int32))]) B dX6_run_155 (by decide) [1, 2, 3, 4, 0, 5, 6, 7, 8] rfl ?_
          refine g_iload B dX6_run_157 4 rfl ?_
          refine g_tif_ge (tgt := 175) B dX6_run_159 (by decide) (fun c62 => ?_) (fun c62 => ?_)
          · have e1 := (ks_step hg).1
            have hn1 : ks_nd P ca (k + 1) < 12 := by rw [e1]; exact c62
            refine g_eqlv (lv2 := [(0, .ref gb), (1, .int (nI ca)), (2, .ref q1), (3, .ref r_2), (4, .int (nI (ks_nd P ca (k + 1)))), (5, .int (nI k)), (6, .ref (na (ks_nd P ca k))), (7, .int (nI ((ks_dg ca) (P.1 (ks_nd P ca k))))), (8, .int (1 : Int32))]) (by rw [e1, ks_tI_lt c62]) ?_
            refine g_iinc (lv' := [(0, .ref gb), (1, .int (nI ca)), (2, .ref q1), (3, .ref r_2), (4, .int (nI (ks_nd P ca (k + 1)))), (5, .int (nI (k + 1))), (6, .ref (na (ks_nd P ca k))), (7, .int (nI ((ks_dg ca) (P.1 (ks_nd P ca k))))), (8, .int (1 : Int32))]) B dX6_run_175 5 rfl (nI_1 k) (by decide) [1, 2, 3, 4, 5, 0, 6, 7, 8] rfl ?_
            refine g_goto (tgt := 16) B dX6_run_178 (by decide) ?_
            refine g_widen (k := 2) (n := 35) (by (try dsimp only); omega) (by (try dsimp only); omega) ?_
            have ihx63 := ih16 (k + 1, (upd fm k (nI (ks_ek P ca k))))
            try dsimp only at ihx63
            exact g_pick [0, 1, 2, 3, 4, 5] rfl (ihx63 (⟨by omega, lt_s i2 hg, lt_s (p := fun j => upd fm k (nI (ks_ek P ca k)) j = nI (ks_ek P ca j)) (fun a ha => by rw [pk_un (by omega)]; exact i3 a ha) pk_us, hn1⟩) (by (try dsimp only); omega))
          · refine g_aload_n B dX6_run_162 2 rfl ?_
            refine g_iload B dX6_run_163 5 rfl ?_
            refine g_iconst (v := (1 : Int32)) B dX6_run_165 (by decide) ?_
            refine g_iadd (v := nI (k + 1)) B dX6_run_166 (nI_add k 1) ?_
            refine g_aload_n B dX6_run_167 2 rfl ?_
            refine g_iload B dX6_run_168 5 rfl ?_
            refine g_iald B hK 2 0 rfl rfl k rfl (by omega) (by omega) (v := nI (ks_ek P ca k)) pk_us dX6_run_170 ?_
            refine g_callU (w2 := (fun (z9 : Nat × (Nat → Int32)) => [(gb, .inr (6, [.ref hb, .ref b, .int (nI dw), .ref gn, .ref gv, .int (nI sd), .ref gk, .ref gr])), (gn, .inl (cQ, 12, .inr (.inr (.inr (.inr (fun i => some (na i))))))), (q1, .inl (cI, 31, .inl (upd fm k (nI (ks_ek P ca k))))), (r_2, .inl (cI, 4, .inl (fun i => nI ((ks_dg ca) i)))), (z9.1, .inl (cI, ((k + 1) + 1), .inl z9.2))])) (g_runS B (b_told l (D := D) (cI := cI) (cL := cL) (cZ := cZ) (cQ := cQ) q1 (k + 1) (ks_ek P ca k) (upd fm k (nI (ks_ek P ca k))) (by first | with_reducible assumption | omega | assumption)) (gPw.pre (av := [.ref q1, .int (nI (k + 1)), .int (nI (ks_ek P ca k))]) (wc := [(q1, .inl (cI, 31, .inl (upd fm k (nI (ks_ek P ca k)))))]) hK hN [2] rfl (by decide)) gX6_run_X6_told rfl kd_X6_told ⟨by decide, by decide⟩ (st := []) rfl (Nat.le_of_ble_eq_true rfl) dX6_run_171 ⟨by (try dsimp only); omega, by (try dsimp only); omega⟩) hA (fun _ h => h) [2] [0, 1, 3] (wr := [(gb, .inr (6, [.ref hb, .ref b, .int (nI dw), .ref gn, .ref gv, .int (nI sd), .ref gk, .ref gr])), (gn, .inl (cQ, 12, .inr (.inr (.inr (.inr (fun i => some (na i))))))), (r_2, .inl (cI, 4, .inl (fun i => nI ((ks_dg ca) i))))]) rfl rfl (by decide) (by decide) [0, 1, 3, 2, 4] (by decide) (fun _ => rfl) (fun u hu => ?_)
            obtain ⟨r_64, h_64⟩ := u
            try dsimp only at hu ⊢
            have hu64 := hu
            have hnx : ¬ ks_nd P ca (k + 1) < 12 := by rw [(ks_step hg).1]; exact c62
            obtain ⟨z1, z2, z3⟩ := fw_A (by omega) (lt_s i2 hg) hnx
            refine g_eqw (w2 := ([(gb, .inr (6, [.ref hb, .ref b, .int (nI dw), .ref gn, .ref gv, .int (nI sd), .ref gk, .ref gr])), (gn, .inl (cQ, 12, .inr (.inr (.inr (.inr (fun i => some (na i))))))), (q1, .inl (cI, 31, .inl (upd fm k (nI (ks_ek P ca k))))), (r_2, .inl (cI, 4, .inl (fun i => nI ((ks_dg ca) i)))), (r_64, .inl (cI, (ks_st P ca + 1), .inl h_64))] ++ (tl_T cI 12 na (ks_nr P) 4 wa (ks_wr W) rc ra (ks_rr Q) n ka (ks_kn t S mu)))) (by rw [show ks_st P ca = k + 1 by omega]) ?_
            refine g_widen (k := 3) (n := 66) (by (try dsimp only); omega) (by (try dsimp only); omega) ?_
            refine g_subT (X2 := [(gb, .inr (6, [.ref hb, .ref b, .int (nI dw), .ref gn, .ref gv, .int (nI sd), .ref gk, .ref gr])), (gn, .inl (cQ, 12, .inr (.inr (.inr (.inr (fun i => some (na i))))))), (r_64, .inl (cI, (ks_st P ca + 1), .inl h_64))]) [0, 1, 4] (by decide) rfl ?_
            exact g_aret_x B hr (Or.inr ⟨_, rfl⟩) hlocks (r_64, h_64) (rfl) (by (try dsimp only); exact ⟨fun j hj => by rw [← z1] at hj; rw [hu64.1 j hj]; exact lt_s (p := fun j => upd fm k (nI (ks_ek P ca k)) j = nI (ks_ek P ca j)) (fun a ha => by rw [pk_un (by omega)]; exact i3 a ha) pk_us j hj, by rw [← z1, hu64.2, ← z2, fw_rI hg]⟩) (by (try dsimp only) <;> rfl) dX6_run_174
        · refine g_aload B dX6_run_76 6 rfl ?_
          refine g_iconst (v := (1 : Int32)) B dX6_run_78 (by decide) ?_
          refine g_iald B hK _ 0 (tl_g1 (i := (ks_nd P ca k)) (by omega)) rfl 1 rfl (by omega) (by omega) (v := nI (P.2.1 (ks_nd P ca k))) (rfl) dX6_run_79 ?_
          refine g_iconst (v := (1 : Int32)) B dX6_run_80 (by decide) ?_
          refine g_ncmp_ne (tgt := 93) B (P.2.1 (ks_nd P ca k)) 1 rfl rfl (by omega) (by omega) dX6_run_81 (by decide) (fun c66 => ?_) (fun c66 => ?_)
          · refine g_aload B dX6_run_93 6 rfl ?_
            refine g_iconst (v := (1 : Int32)) B dX6_run_95 (by decide) ?_
            refine g_iald B hK _ 0 (tl_g1 (i := (ks_nd P ca k)) (by omega)) rfl 1 rfl (by omega) (by omega) (v := nI (P.2.1 (ks_nd P ca k))) (rfl) dX6_run_96 ?_
            refine g_iconst (v := (2 : Int32)) B dX6_run_97 (by decide) ?_
            refine g_ncmp_ne (tgt := 114) B (P.2.1 (ks_nd P ca k)) 2 rfl rfl (by omega) (by omega) dX6_run_98 (by decide) (fun c68 => ?_) (fun c68 => ?_)
            · refine g_iconst (v := (0 : Int32)) B dX6_run_114 (by decide) ?_
              refine g_istore (lv' := [(0, .ref gb), (1, .int (nI ca)), (2, .ref q1), (3, .ref r_2), (4, .int (nI (ks_nd P ca k))), (5, .int (nI k)), (6, .ref (na (ks_nd P ca k))), (7, .int (nI ((ks_dg ca) (P.1 (ks_nd P ca k))))), (8, .int (0 : Int32))]) B dX6_run_115 (by decide) [1, 2, 3, 4, 5, 6, 7, 8, 0] rfl ?_
              have hso : ks_so P (ks_nd P ca k) ca = false := by unfold ks_so; split <;> (try split) <;> simp <;> omega
              refine g_aload_n B dX6_run_117 2 rfl ?_
              refine g_iload B dX6_run_118 5 rfl ?_
              refine g_iload B dX6_run_120 8 rfl ?_
              refine g_if_eq (tgt := 132) B dX6_run_122 (by decide) (fun _ => ?_) (fun c69 => absurd (by decide) c69)
              refine g_iconst (v := (2 : Int32)) B dX6_run_132 (by decide) ?_
              refine g_iload B dX6_run_133 4 rfl ?_
              refine g_imul (v := nI (2 * (ks_nd P ca k))) B dX6_run_135 (pk_mul 2 (ks_nd P ca k)) ?_
              refine g_iconst (v := (1 : Int32)) B dX6_run_136 (by decide) ?_
              refine g_iadd (v := nI ((2 * (ks_nd P ca k)) + 1)) B dX6_run_137 (nI_add (2 * (ks_nd P ca k)) 1) ?_
              refine g_eqi (y := nI (ks_ek P ca k)) (fw_ek0 hso) ?_
              have hg : ks_go P (ks_nd P ca k) = true := ks_go_of i4 c8
              have hek : ks_ek P ca k < 24 := (ks_eg_lt i4).1
              refine g_iast B hK 2 0 rfl rfl k rfl (by omega) (by omega) (f2 := (upd fm k (nI (ks_ek P ca k)))) (rfl) (w2 := ([(gb, .inr (6, [.ref hb, .ref b, .int (nI dw), .ref gn, .ref gv, .int (nI sd), .ref gk, .ref gr])), (gn, .inl (cQ, 12, .inr (.inr (.inr (.inr (fun i => some (na i))))))), (q1, .inl (cI, 31, .inl (upd fm k (nI (ks_ek P ca k))))), (r_2, .inl (cI, 4, .inl (fun i => nI ((ks_dg ca) i))))] ++ (tl_T cI 12 na (ks_nr P) 4 wa (ks_wr W) rc ra (ks_rr Q) n ka (ks_kn t S mu)))) rfl (fun _ h => h) dX6_run_138 ?_
              refine g_iload B dX6_run_139 8 rfl ?_
              refine g_if_eq (tgt := 151) B dX6_run_141 (by decide) (fun _ => ?_) (fun c70 => absurd (by decide) c70)
              refine g_aload B dX6_run_151 6 rfl ?_
              refine g_iconst (v := (4 : Int32)) B dX6_run_153 (by decide) ?_
              refine g_iald B hK _ 0 (tl_g1 (i := (ks_nd P ca k)) (by omega)) rfl 4 rfl (by omega) (by omega) (v := ks_tI (P.2.2.2.1 (2 * (ks_nd P ca k) + 1))) (rfl) dX6_run_154 ?_
              refine g_eqi (y := ks_tI (P.2.2.2.1 (ks_ek P ca k))) (by rw [show ks_ek P ca k = 2 * ks_nd P ca k + 1 from by unfold ks_ek ks_eg; rw [hso]; rfl]) ?_
              refine g_istore (lv' := [(0, .ref gb), (1, .int (nI ca)), (2, .ref q1), (3, .ref r_2), (4, .int (ks_tI (P.2.2.2.1 (ks_ek P ca k)))), (5, .int (nI k)), (6, .ref (na (ks_nd P ca k))), (7, .int (nI ((ks_dg ca) (P.1 (ks_nd P ca k))))), (8, .int (0 : Int32))]) B dX6_run_155 (by decide) [1, 2, 3, 4, 0, 5, 6, 7, 8] rfl ?_
              refine g_iload B dX6_run_157 4 rfl ?_
              refine g_tif_ge (tgt := 175) B dX6_run_159 (by decide) (fun c71 => ?_) (fun c71 => ?_)
              · have e1 := (ks_step hg).1
                have hn1 : ks_nd P ca (k + 1) < 12 := by rw [e1]; exact c71
                refine g_eqlv (lv2 := [(0, .ref gb), (1, .int (nI ca)), (2, .ref q1), (3, .ref r_2), (4, .int (nI (ks_nd P ca (k + 1)))), (5, .int (nI k)), (6, .ref (na (ks_nd P ca k))), (7, .int (nI ((ks_dg ca) (P.1 (ks_nd P ca k))))), (8, .int (0 : Int32))]) (by rw [e1, ks_tI_lt c71]) ?_
                refine g_iinc (lv' := [(0, .ref gb), (1, .int (nI ca)), (2, .ref q1), (3, .ref r_2), (4, .int (nI (ks_nd P ca (k + 1)))), (5, .int (nI (k + 1))), (6, .ref (na (ks_nd P ca k))), (7, .int (nI ((ks_dg ca) (P.1 (ks_nd P ca k))))), (8, .int (0 : Int32))]) B dX6_run_175 5 rfl (nI_1 k) (by decide) [1, 2, 3, 4, 5, 0, 6, 7, 8] rfl ?_
                refine g_goto (tgt := 16) B dX6_run_178 (by decide) ?_
                refine g_widen (k := 2) (n := 35) (by (try dsimp only); omega) (by (try dsimp only); omega) ?_
                have ihx72 := ih16 (k + 1, (upd fm k (nI (ks_ek P ca k))))
                try dsimp only at ihx72
                exact g_pick [0, 1, 2, 3, 4, 5] rfl (ihx72 (⟨by omega, lt_s i2 hg, lt_s (p := fun j => upd fm k (nI (ks_ek P ca k)) j = nI (ks_ek P ca j)) (fun a ha => by rw [pk_un (by omega)]; exact i3 a ha) pk_us, hn1⟩) (by (try dsimp only); omega))
              · refine g_aload_n B dX6_run_162 2 rfl ?_
                refine g_iload B dX6_run_163 5 rfl ?_
                refine g_iconst (v := (1 : Int32)) B dX6_run_165 (by decide) ?_
                refine g_iadd (v := nI (k + 1)) B dX6_run_166 (nI_add k 1) ?_
                refine g_aload_n B dX6_run_167 2 rfl ?_
                refine g_iload B dX6_run_168 5 rfl ?_
                refine g_iald B hK 2 0 rfl rfl k rfl (by omega) (by omega) (v := nI (ks_ek P ca k)) pk_us dX6_run_170 ?_
                refine g_callU (w2 := (fun (z9 : Nat × (Nat → Int32)) => [(gb, .inr (6, [.ref hb, .ref b, .int (nI dw), .ref gn, .ref gv, .int (nI sd), .ref gk, .ref gr])), (gn, .inl (cQ, 12, .inr (.inr (.inr (.inr (fun i => some (na i))))))), (q1, .inl (cI, 31, .inl (upd fm k (nI (ks_ek P ca k))))), (r_2, .inl (cI, 4, .inl (fun i => nI ((ks_dg ca) i)))), (z9.1, .inl (cI, ((k + 1) + 1), .inl z9.2))])) (g_runS B (b_told l (D := D) (cI := cI) (cL := cL) (cZ := cZ) (cQ := cQ) q1 (k + 1) (ks_ek P ca k) (upd fm k (nI (ks_ek P ca k))) (by first | with_reducible assumption | omega | assumption)) (gPw.pre (av := [.ref q1, .int (nI (k + 1)), .int (nI (ks_ek P ca k))]) (wc := [(q1, .inl (cI, 31, .inl (upd fm k (nI (ks_ek P ca k)))))]) hK hN [2] rfl (by decide)) gX6_run_X6_told rfl kd_X6_told ⟨by decide, by decide⟩ (st := []) rfl (Nat.le_of_ble_eq_true rfl) dX6_run_171 ⟨by (try dsimp only); omega, by (try dsimp only); omega⟩) hA (fun _ h => h) [2] [0, 1, 3] (wr := [(gb, .inr (6, [.ref hb, .ref b, .int (nI dw), .ref gn, .ref gv, .int (nI sd), .ref gk, .ref gr])), (gn, .inl (cQ, 12, .inr (.inr (.inr (.inr (fun i => some (na i))))))), (r_2, .inl (cI, 4, .inl (fun i => nI ((ks_dg ca) i))))]) rfl rfl (by decide) (by decide) [0, 1, 3, 2, 4] (by decide) (fun _ => rfl) (fun u hu => ?_)
                obtain ⟨r_73, h_73⟩ := u
                try dsimp only at hu ⊢
                have hu73 := hu
                have hnx : ¬ ks_nd P ca (k + 1) < 12 := by rw [(ks_step hg).1]; exact c71
                obtain ⟨z1, z2, z3⟩ := fw_A (by omega) (lt_s i2 hg) hnx
                refine g_eqw (w2 := ([(gb, .inr (6, [.ref hb, .ref b, .int (nI dw), .ref gn, .ref gv, .int (nI sd), .ref gk, .ref gr])), (gn, .inl (cQ, 12, .inr (.inr (.inr (.inr (fun i => some (na i))))))), (q1, .inl (cI, 31, .inl (upd fm k (nI (ks_ek P ca k))))), (r_2, .inl (cI, 4, .inl (fun i => nI ((ks_dg ca) i)))), (r_73, .inl (cI, (ks_st P ca + 1), .inl h_73))] ++ (tl_T cI 12 na (ks_nr P) 4 wa (ks_wr W) rc ra (ks_rr Q) n ka (ks_kn t S mu)))) (by rw [show ks_st P ca = k + 1 by omega]) ?_
                refine g_widen (k := 3) (n := 66) (by (try dsimp only); omega) (by (try dsimp only); omega) ?_
                refine g_subT (X2 := [(gb, .inr (6, [.ref hb, .ref b, .int (nI dw), .ref gn, .ref gv, .int (nI sd), .ref gk, .ref gr])), (gn, .inl (cQ, 12, .inr (.inr (.inr (.inr (fun i => some (na i))))))), (r_73, .inl (cI, (ks_st P ca + 1), .inl h_73))]) [0, 1, 4] (by decide) rfl ?_
                exact g_aret_x B hr (Or.inr ⟨_, rfl⟩) hlocks (r_73, h_73) (rfl) (by (try dsimp only); exact ⟨fun j hj => by rw [← z1] at hj; rw [hu73.1 j hj]; exact lt_s (p := fun j => upd fm k (nI (ks_ek P ca k)) j = nI (ks_ek P ca j)) (fun a ha => by rw [pk_un (by omega)]; exact i3 a ha) pk_us j hj, by rw [← z1, hu73.2, ← z2, fw_rI hg]⟩) (by (try dsimp only) <;> rfl) dX6_run_174
            · refine g_iload B dX6_run_101 7 rfl ?_
              refine g_aload B dX6_run_103 6 rfl ?_
              refine g_iconst (v := (2 : Int32)) B dX6_run_105 (by decide) ?_
              refine g_iald B hK _ 0 (tl_g1 (i := (ks_nd P ca k)) (by omega)) rfl 2 rfl (by omega) (by omega) (v := nI (P.2.2.1 (ks_nd P ca k))) (rfl) dX6_run_106 ?_
              refine g_ncmp_le (tgt := 114) B ((ks_dg ca) (P.1 (ks_nd P ca k))) (P.2.2.1 (ks_nd P ca k)) rfl rfl (by omega) (by omega) dX6_run_107 (by decide) (fun c75 => ?_) (fun c75 => ?_)
              · refine g_iconst (v := (0 : Int32)) B dX6_run_114 (by decide) ?_
                refine g_istore (lv' := [(0, .ref gb), (1, .int (nI ca)), (2, .ref q1), (3, .ref r_2), (4, .int (nI (ks_nd P ca k))), (5, .int (nI k)), (6, .ref (na (ks_nd P ca k))), (7, .int (nI ((ks_dg ca) (P.1 (ks_nd P ca k))))), (8, .int (0 : Int32))]) B dX6_run_115 (by decide) [1, 2, 3, 4, 5, 6, 7, 8, 0] rfl ?_
                have hso : ks_so P (ks_nd P ca k) ca = false := by unfold ks_so; split <;> (try split) <;> simp <;> omega
                refine g_aload_n B dX6_run_117 2 rfl ?_
                refine g_iload B dX6_run_118 5 rfl ?_
                refine g_iload B dX6_run_120 8 rfl ?_
                refine g_if_eq (tgt := 132) B dX6_run_122 (by decide) (fun _ => ?_) (fun c76 => absurd (by decide) c76)
                refine g_iconst (v := (2 : Int32)) B dX6_run_132 (by decide) ?_
                refine g_iload B dX6_run_133 4 rfl ?_
                refine g_imul (v := nI (2 * (ks_nd P ca k))) B dX6_run_135 (pk_mul 2 (ks_nd P ca k)) ?_
                refine g_iconst (v := (1 : Int32)) B dX6_run_136 (by decide) ?_
                refine g_iadd (v := nI ((2 * (ks_nd P ca k)) + 1)) B dX6_run_137 (nI_add (2 * (ks_nd P ca k)) 1) ?_
                refine g_eqi (y := nI (ks_ek P ca k)) (fw_ek0 hso) ?_
                have hg : ks_go P (ks_nd P ca k) = true := ks_go_of i4 c8
                have hek : ks_ek P ca k < 24 := (ks_eg_lt i4).1
                refine g_iast B hK 2 0 rfl rfl k rfl (by omega) (by omega) (f2 := (upd fm k (nI (ks_ek P ca k)))) (rfl) (w2 := ([(gb, .inr (6, [.ref hb, .ref b, .int (nI dw), .ref gn, .ref gv, .int (nI sd), .ref gk, .ref gr])), (gn, .inl (cQ, 12, .inr (.inr (.inr (.inr (fun i => some (na i))))))), (q1, .inl (cI, 31, .inl (upd fm k (nI (ks_ek P ca k))))), (r_2, .inl (cI, 4, .inl (fun i => nI ((ks_dg ca) i))))] ++ (tl_T cI 12 na (ks_nr P) 4 wa (ks_wr W) rc ra (ks_rr Q) n ka (ks_kn t S mu)))) rfl (fun _ h => h) dX6_run_138 ?_
                refine g_iload B dX6_run_139 8 rfl ?_
                refine g_if_eq (tgt := 151) B dX6_run_141 (by decide) (fun _ => ?_) (fun c77 => absurd (by decide) c77)
                refine g_aload B dX6_run_151 6 rfl ?_
                refine g_iconst (v := (4 : Int32)) B dX6_run_153 (by decide) ?_
                refine g_iald B hK _ 0 (tl_g1 (i := (ks_nd P ca k)) (by omega)) rfl 4 rfl (by omega) (by omega) (v := ks_tI (P.2.2.2.1 (2 * (ks_nd P ca k) + 1))) (rfl) dX6_run_154 ?_
                refine g_eqi (y := ks_tI (P.2.2.2.1 (ks_ek P ca k))) (by rw [show ks_ek P ca k = 2 * ks_nd P ca k + 1 from by unfold ks_ek ks_eg; rw [hso]; rfl]) ?_
                refine g_istore (lv' := [(0, .ref gb), (1, .int (nI ca)), (2, .ref q1), (3, .ref r_2), (4, .int (ks_tI (P.2.2.2.1 (ks_ek P ca k)))), (5, .int (nI k)), (6, .ref (na (ks_nd P ca k))), (7, .int (nI ((ks_dg ca) (P.1 (ks_nd P ca k))))), (8, .int (0 : Int32))]) B dX6_run_155 (by decide) [1, 2, 3, 4, 0, 5, 6, 7, 8] rfl ?_
                refine g_iload B dX6_run_157 4 rfl ?_
                refine g_tif_ge (tgt := 175) B dX6_run_159 (by decide) (fun c78 => ?_) (fun c78 => ?_)
                · have e1 := (ks_step hg).1
                  have hn1 : ks_nd P ca (k + 1) < 12 := by rw [e1]; exact c78
                  refine g_eqlv (lv2 := [(0, .ref gb), (1, .int (nI ca)), (2, .ref q1), (3, .ref r_2), (4, .int (nI (ks_nd P ca (k + 1)))), (5, .int (nI k)), (6, .ref (na (ks_nd P ca k))), (7, .int (nI ((ks_dg ca) (P.1 (ks_nd P ca k))))), (8, .int (0 : Int32))]) (by rw [e1, ks_tI_lt c78]) ?_
                  refine g_iinc (lv' := [(0, .ref gb), (1, .int (nI ca)), (2, .ref q1), (3, .ref r_2), (4, .int (nI (ks_nd P ca (k + 1)))), (5, .int (nI (k + 1))), (6, .ref (na (ks_nd P ca k))), (7, .int (nI ((ks_dg ca) (P.1 (ks_nd P ca k))))), (8, .int (0 : Int32))]) B dX6_run_175 5 rfl (nI_1 k) (by decide) [1, 2, 3, 4, 5, 0, 6, 7, 8] rfl ?_
                  refine g_goto (tgt := 16) B dX6_run_178 (by decide) ?_
                  refine g_widen (k := 2) (n := 35) (by (try dsimp only); omega) (by (try dsimp only); omega) ?_
                  have ihx79 := ih16 (k + 1, (upd fm k (nI (ks_ek P ca k))))
                  try dsimp only at ihx79
                  exact g_pick [0, 1, 2, 3, 4, 5] rfl (ihx79 (⟨by omega, lt_s i2 hg, lt_s (p := fun j => upd fm k (nI (ks_ek P ca k)) j = nI (ks_ek P ca j)) (fun a ha => by rw [pk_un (by omega)]; exact i3 a ha) pk_us, hn1⟩) (by (try dsimp only); omega))
                · refine g_aload_n B dX6_run_162 2 rfl ?_
                  refine g_iload B dX6_run_163 5 rfl ?_
                  refine g_iconst (v := (1 : Int32)) B dX6_run_165 (by decide) ?_
                  refine g_iadd (v := nI (k + 1)) B dX6_run_166 (nI_add k 1) ?_
                  refine g_aload_n B dX6_run_167 2 rfl ?_
                  refine g_iload B dX6_run_168 5 rfl ?_
                  refine g_iald B hK 2 0 rfl rfl k rfl (by omega) (by omega) (v := nI (ks_ek P ca k)) pk_us dX6_run_170 ?_
                  refine g_callU (w2 := (fun (z9 : Nat × (Nat → Int32)) => [(gb, .inr (6, [.ref hb, .ref b, .int (nI dw), .ref gn, .ref gv, .int (nI sd), .ref gk, .ref gr])), (gn, .inl (cQ, 12, .inr (.inr (.inr (.inr (fun i => some (na i))))))), (q1, .inl (cI, 31, .inl (upd fm k (nI (ks_ek P ca k))))), (r_2, .inl (cI, 4, .inl (fun i => nI ((ks_dg ca) i)))), (z9.1, .inl (cI, ((k + 1) + 1), .inl z9.2))])) (g_runS B (b_told l (D := D) (cI := cI) (cL := cL) (cZ := cZ) (cQ := cQ) q1 (k + 1) (ks_ek P ca k) (upd fm k (nI (ks_ek P ca k))) (by first | with_reducible assumption | omega | assumption)) (gPw.pre (av := [.ref q1, .int (nI (k + 1)), .int (nI (ks_ek P ca k))]) (wc := [(q1, .inl (cI, 31, .inl (upd fm k (nI (ks_ek P ca k)))))]) hK hN [2] rfl (by decide)) gX6_run_X6_told rfl kd_X6_told ⟨by decide, by decide⟩ (st := []) rfl (Nat.le_of_ble_eq_true rfl) dX6_run_171 ⟨by (try dsimp only); omega, by (try dsimp only); omega⟩) hA (fun _ h => h) [2] [0, 1, 3] (wr := [(gb, .inr (6, [.ref hb, .ref b, .int (nI dw), .ref gn, .ref gv, .int (nI sd), .ref gk, .ref gr])), (gn, .inl (cQ, 12, .inr (.inr (.inr (.inr (fun i => some (na i))))))), (r_2, .inl (cI, 4, .inl (fun i => nI ((ks_dg ca) i))))]) rfl rfl (by decide) (by decide) [0, 1, 3, 2, 4] (by decide) (fun _ => rfl) (fun u hu => ?_)
                  obtain ⟨r_80, h_80⟩ := u
                  try dsimp only at hu ⊢
                  have hu80 := hu
                  have hnx : ¬ ks_nd P ca (k + 1) < 12 := by rw [(ks_step hg).1]; exact c78
                  obtain ⟨z1, z2, z3⟩ := fw_A (by omega) (lt_s i2 hg) hnx
                  refine g_eqw (w2 := ([(gb, .inr (6, [.ref hb, .ref b, .int (nI dw), .ref gn, .ref gv, .int (nI sd), .ref gk, .ref gr])), (gn, .inl (cQ, 12, .inr (.inr (.inr (.inr (fun i => some (na i))))))), (q1, .inl (cI, 31, .inl (upd fm k (nI (ks_ek P ca k))))), (r_2, .inl (cI, 4, .inl (fun i => nI ((ks_dg ca) i)))), (r_80, .inl (cI, (ks_st P ca + 1), .inl h_80))] ++ (tl_T cI 12 na (ks_nr P) 4 wa (ks_wr W) rc ra (ks_rr Q) n ka (ks_kn t S mu)))) (by rw [show ks_st P ca = k + 1 by omega]) ?_
                  refine g_widen (k := 3) (n := 66) (by (try dsimp only); omega) (by (try dsimp only); omega) ?_
                  refine g_subT (X2 := [(gb, .inr (6, [.ref hb, .ref b, .int (nI dw), .ref gn, .ref gv, .int (nI sd), .ref gk, .ref gr])), (gn, .inl (cQ, 12, .inr (.inr (.inr (.inr (fun i => some (na i))))))), (r_80, .inl (cI, (ks_st P ca + 1), .inl h_80))]) [0, 1, 4] (by decide) rfl ?_
                  exact g_aret_x B hr (Or.inr ⟨_, rfl⟩) hlocks (r_80, h_80) (rfl) (by (try dsimp only); exact ⟨fun j hj => by rw [← z1] at hj; rw [hu80.1 j hj]; exact lt_s (p := fun j => upd fm k (nI (ks_ek P ca k)) j = nI (ks_ek P ca j)) (fun a ha => by rw [pk_un (by omega)]; exact i3 a ha) pk_us j hj, by rw [← z1, hu80.2, ← z2, fw_rI hg]⟩) (by (try dsimp only) <;> rfl) dX6_run_174
              · refine g_iconst (v := (1 : Int32)) B dX6_run_110 (by decide) ?_
                refine g_goto (tgt := 115) B dX6_run_111 (by decide) ?_
                refine g_istore (lv' := [(0, .ref gb), (1, .int (nI ca)), (2, .ref q1), (3, .ref r_2), (4, .int (nI (ks_nd P ca k))), (5, .int (nI k)), (6, .ref (na (ks_nd P ca k))), (7, .int (nI ((ks_dg ca) (P.1 (ks_nd P ca k))))), (8, .int (1 : Int32))]) B dX6_run_115 (by decide) [1, 2, 3, 4, 5, 6, 7, 8, 0] rfl ?_
                have hso : ks_so P (ks_nd P ca k) ca = true := by unfold ks_so; split <;> (try split) <;> simp <;> omega
                refine g_aload_n B dX6_run_117 2 rfl ?_
                refine g_iload B dX6_run_118 5 rfl ?_
                refine g_iload B dX6_run_120 8 rfl ?_
                refine g_if_eq (tgt := 132) B dX6_run_122 (by decide) (fun c81 => absurd c81 (by decide)) (fun _ => ?_)
                refine g_iconst (v := (2 : Int32)) B dX6_run_125 (by decide) ?_
                refine g_iload B dX6_run_126 4 rfl ?_
                refine g_imul (v := nI (2 * (ks_nd P ca k))) B dX6_run_128 (pk_mul 2 (ks_nd P ca k)) ?_
                refine g_goto (tgt := 138) B dX6_run_129 (by decide) ?_
                refine g_eqi (y := nI (ks_ek P ca k)) (fw_ek1 hso) ?_
                have hg : ks_go P (ks_nd P ca k) = true := ks_go_of i4 c8
                have hek : ks_ek P ca k < 24 := (ks_eg_lt i4).1
                refine g_iast B hK 2 0 rfl rfl k rfl (by omega) (by omega) (f2 := (upd fm k (nI (ks_ek P ca k)))) (rfl) (w2 := ([(gb, .inr (6, [.ref hb, .ref b, .int (nI dw), .ref gn, .ref gv, .int (nI sd), .ref gk, .ref gr])), (gn, .inl (cQ, 12, .inr (.inr (.inr (.inr (fun i => some (na i))))))), (q1, .inl (cI, 31, .inl (upd fm k (nI (ks_ek P ca k))))), (r_2, .inl (cI, 4, .inl (fun i => nI ((ks_dg ca) i))))] ++ (tl_T cI 12 na (ks_nr P) 4 wa (ks_wr W) rc ra (ks_rr Q) n ka (ks_kn t S mu)))) rfl (fun _ h => h) dX6_run_138 ?_
                refine g_iload B dX6_run_139 8 rfl ?_
                refine g_if_eq (tgt := 151) B dX6_run_141 (by decide) (fun c82 => absurd c82 (by decide)) (fun _ => ?_)
                refine g_aload B dX6_run_144 6 rfl ?_
                refine g_iconst (v := (3 : Int32)) B dX6_run_146 (by decide) ?_
                refine g_iald B hK _ 0 (tl_g1 (i := (ks_nd P ca k)) (by omega)) rfl 3 rfl (by omega) (by omega) (v := ks_tI (P.2.2.2.1 (2 * (ks_nd P ca k)))) (rfl) dX6_run_147 ?_
                refine g_goto (tgt := 155) B dX6_run_148 (by decide) ?_
                refine g_eqi (y := ks_tI (P.2.2.2.1 (ks_ek P ca k))) (by rw [show ks_ek P ca k = 2 * ks_nd P ca k from by unfold ks_ek ks_eg; rw [hso]; rfl]) ?_
                refine g_istore (lv' := [(0, .ref gb), (1, .int (nI ca)), (2, .ref q1), (3, .ref r_2), (4, .int (ks_tI (P.2.2.2.1 (ks_ek P ca k)))), (5, .int (nI k)), (6, .ref (na (ks_nd P ca k))), (7, .int (nI ((ks_dg ca) (P.1 (ks_nd P ca k))))), (8, .int (1 : Int32))]) B dX6_run_155 (by decide) [1, 2, 3, 4, 0, 5, 6, 7, 8] rfl ?_
                refine g_iload B dX6_run_157 4 rfl ?_
                refine g_tif_ge (tgt := 175) B dX6_run_159 (by decide) (fun c83 => ?_) (fun c83 => ?_)
                · have e1 := (ks_step hg).1
                  have hn1 : ks_nd P ca (k + 1) < 12 := by rw [e1]; exact c83
                  refine g_eqlv (lv2 := [(0, .ref gb), (1, .int (nI ca)), (2, .ref q1), (3, .ref r_2), (4, .int (nI (ks_nd P ca (k + 1)))), (5, .int (nI k)), (6, .ref (na (ks_nd P ca k))), (7, .int (nI ((ks_dg ca) (P.1 (ks_nd P ca k))))), (8, .int (1 : Int32))]) (by rw [e1, ks_tI_lt c83]) ?_
                  refine g_iinc (lv' := [(0, .ref gb), (1, .int (nI ca)), (2, .ref q1), (3, .ref r_2), (4, .int (nI (ks_nd P ca (k + 1)))), (5, .int (nI (k + 1))), (6, .ref (na (ks_nd P ca k))), (7, .int (nI ((ks_dg ca) (P.1 (ks_nd P ca k))))), (8, .int (1 : Int32))]) B dX6_run_175 5 rfl (nI_1 k) (by decide) [1, 2, 3, 4, 5, 0, 6, 7, 8] rfl ?_
                  refine g_goto (tgt := 16) B dX6_run_178 (by decide) ?_
                  refine g_widen (k := 2) (n := 35) (by (try dsimp only); omega) (by (try dsimp only); omega) ?_
                  have ihx84 := ih16 (k + 1, (upd fm k (nI (ks_ek P ca k))))
                  try dsimp only at ihx84
                  exact g_pick [0, 1, 2, 3, 4, 5] rfl (ihx84 (⟨by omega, lt_s i2 hg, lt_s (p := fun j => upd fm k (nI (ks_ek P ca k)) j = nI (ks_ek P ca j)) (fun a ha => by rw [pk_un (by omega)]; exact i3 a ha) pk_us, hn1⟩) (by (try dsimp only); omega))
                · refine g_aload_n B dX6_run_162 2 rfl ?_
                  refine g_iload B dX6_run_163 5 rfl ?_
                  refine g_iconst (v := (1 : Int32)) B dX6_run_165 (by decide) ?_
                  refine g_iadd (v := nI (k + 1)) B dX6_run_166 (nI_add k 1) ?_
                  refine g_aload_n B dX6_run_167 2 rfl ?_
                  refine g_iload B dX6_run_168 5 rfl ?_
                  refine g_iald B hK 2 0 rfl rfl k rfl (by omega) (by omega) (v := nI (ks_ek P ca k)) pk_us dX6_run_170 ?_
                  refine g_callU (w2 := (fun (z9 : Nat × (Nat → Int32)) => [(gb, .inr (6, [.ref hb, .ref b, .int (nI dw), .ref gn, .ref gv, .int (nI sd), .ref gk, .ref gr])), (gn, .inl (cQ, 12, .inr (.inr (.inr (.inr (fun i => some (na i))))))), (q1, .inl (cI, 31, .inl (upd fm k (nI (ks_ek P ca k))))), (r_2, .inl (cI, 4, .inl (fun i => nI ((ks_dg ca) i)))), (z9.1, .inl (cI, ((k + 1) + 1), .inl z9.2))])) (g_runS B (b_told l (D := D) (cI := cI) (cL := cL) (cZ := cZ) (cQ := cQ) q1 (k + 1) (ks_ek P ca k) (upd fm k (nI (ks_ek P ca k))) (by first | with_reducible assumption | omega | assumption)) (gPw.pre (av := [.ref q1, .int (nI (k + 1)), .int (nI (ks_ek P ca k))]) (wc := [(q1, .inl (cI, 31, .inl (upd fm k (nI (ks_ek P ca k)))))]) hK hN [2] rfl (by decide)) gX6_run_X6_told rfl kd_X6_told ⟨by decide, by decide⟩ (st := []) rfl (Nat.le_of_ble_eq_true rfl) dX6_run_171 ⟨by (try dsimp only); omega, by (try dsimp only); omega⟩) hA (fun _ h => h) [2] [0, 1, 3] (wr := [(gb, .inr (6, [.ref hb, .ref b, .int (nI dw), .ref gn, .ref gv, .int (nI sd), .ref gk, .ref gr])), (gn, .inl (cQ, 12, .inr (.inr (.inr (.inr (fun i => some (na i))))))), (r_2, .inl (cI, 4, .inl (fun i => nI ((ks_dg ca) i))))]) rfl rfl (by decide) (by decide) [0, 1, 3, 2, 4] (by decide) (fun _ => rfl) (fun u hu => ?_)
                  obtain ⟨r_85, h_85⟩ := u
                  try dsimp only at hu ⊢
                  have hu85 := hu
                  have hnx : ¬ ks_nd P ca (k + 1) < 12 := by rw [(ks_step hg).1]; exact c83
                  obtain ⟨z1, z2, z3⟩ := fw_A (by omega) (lt_s i2 hg) hnx
                  refine g_eqw (w2 := ([(gb, .inr (6, [.ref hb, .ref b, .int (nI dw), .ref gn, .ref gv, .int (nI sd), .ref gk, .ref gr])), (gn, .inl (cQ, 12, .inr (.inr (.inr (.inr (fun i => some (na i))))))), (q1, .inl (cI, 31, .inl (upd fm k (nI (ks_ek P ca k))))), (r_2, .inl (cI, 4, .inl (fun i => nI ((ks_dg ca) i)))), (r_85, .inl (cI, (ks_st P ca + 1), .inl h_85))] ++ (tl_T cI 12 na (ks_nr P) 4 wa (ks_wr W) rc ra (ks_rr Q) n ka (ks_kn t S mu)))) (by rw [show ks_st P ca = k + 1 by omega]) ?_
                  refine g_widen (k := 3) (n := 66) (by (try dsimp only); omega) (by (try dsimp only); omega) ?_
                  refine g_subT (X2 := [(gb, .inr (6, [.ref hb, .ref b, .int (nI dw), .ref gn, .ref gv, .int (nI sd), .ref gk, .ref gr])), (gn, .inl (cQ, 12, .inr (.inr (.inr (.inr (fun i => some (na i))))))), (r_85, .inl (cI, (ks_st P ca + 1), .inl h_85))]) [0, 1, 4] (by decide) rfl ?_
                  exact g_aret_x B hr (Or.inr ⟨_, rfl⟩) hlocks (r_85, h_85) (rfl) (by (try dsimp only); exact ⟨fun j hj => by rw [← z1] at hj; rw [hu85.1 j hj]; exact lt_s (p := fun j => upd fm k (nI (ks_ek P ca k)) j = nI (ks_ek P ca j)) (fun a ha => by rw [pk_un (by omega)]; exact i3 a ha) pk_us j hj, by rw [← z1, hu85.2, ← z2, fw_rI hg]⟩) (by (try dsimp only) <;> rfl) dX6_run_174
          · refine g_iload B dX6_run_84 7 rfl ?_
            refine g_aload B dX6_run_86 6 rfl ?_
            refine g_iconst (v := (2 : Int32)) B dX6_run_88 (by decide) ?_
            refine g_iald B hK _ 0 (tl_g1 (i := (ks_nd P ca k)) (by omega)) rfl 2 rfl (by omega) (by omega) (v := nI (P.2.2.1 (ks_nd P ca k))) (rfl) dX6_run_89 ?_
            refine g_ncmp_eq (tgt := 110) B ((ks_dg ca) (P.1 (ks_nd P ca k))) (P.2.2.1 (ks_nd P ca k)) rfl rfl (by omega) (by omega) dX6_run_90 (by decide) (fun c87 => ?_) (fun c87 => ?_)
            · refine g_iconst (v := (1 : Int32)) B dX6_run_110 (by decide) ?_
              refine g_goto (tgt := 115) B dX6_run_111 (by decide) ?_
              refine g_istore (lv' := [(0, .ref gb), (1, .int (nI ca)), (2, .ref q1), (3, .ref r_2), (4, .int (nI (ks_nd P ca k))), (5, .int (nI k)), (6, .ref (na (ks_nd P ca k))), (7, .int (nI ((ks_dg ca) (P.1 (ks_nd P ca k))))), (8, .int (1 : Int32))]) B dX6_run_115 (by decide) [1, 2, 3, 4, 5, 6, 7, 8, 0] rfl ?_
              have hso : ks_so P (ks_nd P ca k) ca = true := by unfold ks_so; split <;> (try split) <;> simp <;> omega
              refine g_aload_n B dX6_run_117 2 rfl ?_
              refine g_iload B dX6_run_118 5 rfl ?_
              refine g_iload B dX6_run_120 8 rfl ?_
              refine g_if_eq (tgt := 132) B dX6_run_122 (by decide) (fun c88 => absurd c88 (by decide)) (fun _ => ?_)
              refine g_iconst (v := (2 : Int32)) B dX6_run_125 (by decide) ?_
              refine g_iload B dX6_run_126 4 rfl ?_
              refine g_imul (v := nI (2 * (ks_nd P ca k))) B dX6_run_128 (pk_mul 2 (ks_nd P ca k)) ?_
              refine g_goto (tgt := 138) B dX6_run_129 (by decide) ?_
              refine g_eqi (y := nI (ks_ek P ca k)) (fw_ek1 hso) ?_
              have hg : ks_go P (ks_nd P ca k) = true := ks_go_of i4 c8
              have hek : ks_ek P ca k < 24 := (ks_eg_lt i4).1
              refine g_iast B hK 2 0 rfl rfl k rfl (by omega) (by omega) (f2 := (upd fm k (nI (ks_ek P ca k)))) (rfl) (w2 := ([(gb, .inr (6, [.ref hb, .ref b, .int (nI dw), .ref gn, .ref gv, .int (nI sd), .ref gk, .ref gr])), (gn, .inl (cQ, 12, .inr (.inr (.inr (.inr (fun i => some (na i))))))), (q1, .inl (cI, 31, .inl (upd fm k (nI (ks_ek P ca k))))), (r_2, .inl (cI, 4, .inl (fun i => nI ((ks_dg ca) i))))] ++ (tl_T cI 12 na (ks_nr P) 4 wa (ks_wr W) rc ra (ks_rr Q) n ka (ks_kn t S mu)))) rfl (fun _ h => h) dX6_run_138 ?_
              refine g_iload B dX6_run_139 8 rfl ?_
              refine g_if_eq (tgt := 151) B dX6_run_141 (by decide) (fun c89 => absurd c89 (by decide)) (fun _ => ?_)
              refine g_aload B dX6_run_144 6 rfl ?_
              refine g_iconst (v := (3 : Int32)) B dX6_run_146 (by decide) ?_
              refine g_iald B hK _ 0 (tl_g1 (i := (ks_nd P ca k)) (by omega)) rfl 3 rfl (by omega) (by omega) (v := ks_tI (P.2.2.2.1 (2 * (ks_nd P ca k)))) (rfl) dX6_run_147 ?_
              refine g_goto (tgt := 155) B dX6_run_148 (by decide) ?_
              refine g_eqi (y := ks_tI (P.2.2.2.1 (ks_ek P ca k))) (by rw [show ks_ek P ca k = 2 * ks_nd P ca k from by unfold ks_ek ks_eg; rw [hso]; rfl]) ?_
              refine g_istore (lv' := [(0, .ref gb), (1, .int (nI ca)), (2, .ref q1), (3, .ref r_2), (4, .int (ks_tI (P.2.2.2.1 (ks_ek P ca k)))), (5, .int (nI k)), (6, .ref (na (ks_nd P ca k))), (7, .int (nI ((ks_dg ca) (P.1 (ks_nd P ca k))))), (8, .int (1 : Int32))]) B dX6_run_155 (by decide) [1, 2, 3, 4, 0, 5, 6, 7, 8] rfl ?_
              refine g_iload B dX6_run_157 4 rfl ?_
              refine g_tif_ge (tgt := 175) B dX6_run_159 (by decide) (fun c90 => ?_) (fun c90 => ?_)
              · have e1 := (ks_step hg).1
                have hn1 : ks_nd P ca (k + 1) < 12 := by rw [e1]; exact c90
                refine g_eqlv (lv2 := [(0, .ref gb), (1, .int (nI ca)), (2, .ref q1), (3, .ref r_2), (4, .int (nI (ks_nd P ca (k + 1)))), (5, .int (nI k)), (6, .ref (na (ks_nd P ca k))), (7, .int (nI ((ks_dg ca) (P.1 (ks_nd P ca k))))), (8, .int (1 : Int32))]) (by rw [e1, ks_tI_lt c90]) ?_
                refine g_iinc (lv' := [(0, .ref gb), (1, .int (nI ca)), (2, .ref q1), (3, .ref r_2), (4, .int (nI (ks_nd P ca (k + 1)))), (5, .int (nI (k + 1))), (6, .ref (na (ks_nd P ca k))), (7, .int (nI ((ks_dg ca) (P.1 (ks_nd P ca k))))), (8, .int (1 : Int32))]) B dX6_run_175 5 rfl (nI_1 k) (by decide) [1, 2, 3, 4, 5, 0, 6, 7, 8] rfl ?_
                refine g_goto (tgt := 16) B dX6_run_178 (by decide) ?_
                refine g_widen (k := 2) (n := 35) (by (try dsimp only); omega) (by (try dsimp only); omega) ?_
                have ihx91 := ih16 (k + 1, (upd fm k (nI (ks_ek P ca k))))
                try dsimp only at ihx91
                exact g_pick [0, 1, 2, 3, 4, 5] rfl (ihx91 (⟨by omega, lt_s i2 hg, lt_s (p := fun j => upd fm k (nI (ks_ek P ca k)) j = nI (ks_ek P ca j)) (fun a ha => by rw [pk_un (by omega)]; exact i3 a ha) pk_us, hn1⟩) (by (try dsimp only); omega))
              · refine g_aload_n B dX6_run_162 2 rfl ?_
                refine g_iload B dX6_run_163 5 rfl ?_
                refine g_iconst (v := (1 : Int32)) B dX6_run_165 (by decide) ?_
                refine g_iadd (v := nI (k + 1)) B dX6_run_166 (nI_add k 1) ?_
                refine g_aload_n B dX6_run_167 2 rfl ?_
                refine g_iload B dX6_run_168 5 rfl ?_
                refine g_iald B hK 2 0 rfl rfl k rfl (by omega) (by omega) (v := nI (ks_ek P ca k)) pk_us dX6_run_170 ?_
                refine g_callU (w2 := (fun (z9 : Nat × (Nat → Int32)) => [(gb, .inr (6, [.ref hb, .ref b, .int (nI dw), .ref gn, .ref gv, .int (nI sd), .ref gk, .ref gr])), (gn, .inl (cQ, 12, .inr (.inr (.inr (.inr (fun i => some (na i))))))), (q1, .inl (cI, 31, .inl (upd fm k (nI (ks_ek P ca k))))), (r_2, .inl (cI, 4, .inl (fun i => nI ((ks_dg ca) i)))), (z9.1, .inl (cI, ((k + 1) + 1), .inl z9.2))])) (g_runS B (b_told l (D := D) (cI := cI) (cL := cL) (cZ := cZ) (cQ := cQ) q1 (k + 1) (ks_ek P ca k) (upd fm k (nI (ks_ek P ca k))) (by first | with_reducible assumption | omega | assumption)) (gPw.pre (av := [.ref q1, .int (nI (k + 1)), .int (nI (ks_ek P ca k))]) (wc := [(q1, .inl (cI, 31, .inl (upd fm k (nI (ks_ek P ca k)))))]) hK hN [2] rfl (by decide)) gX6_run_X6_told rfl kd_X6_told ⟨by decide, by decide⟩ (st := []) rfl (Nat.le_of_ble_eq_true rfl) dX6_run_171 ⟨by (try dsimp only); omega, by (try dsimp only); omega⟩) hA (fun _ h => h) [2] [0, 1, 3] (wr := [(gb, .inr (6, [.ref hb, .ref b, .int (nI dw), .ref gn, .ref gv, .int (nI sd), .ref gk, .ref gr])), (gn, .inl (cQ, 12, .inr (.inr (.inr (.inr (fun i => some (na i))))))), (r_2, .inl (cI, 4, .inl (fun i => nI ((ks_dg ca) i))))]) rfl rfl (by decide) (by decide) [0, 1, 3, 2, 4] (by decide) (fun _ => rfl) (fun u hu => ?_)
                obtain ⟨r_92, h_92⟩ := u
                try dsimp only at hu ⊢
                have hu92 := hu
                have hnx : ¬ ks_nd P ca (k + 1) < 12 := by rw [(ks_step hg).1]; exact c90
                obtain ⟨z1, z2, z3⟩ := fw_A (by omega) (lt_s i2 hg) hnx
                refine g_eqw (w2 := ([(gb, .inr (6, [.ref hb, .ref b, .int (nI dw), .ref gn, .ref gv, .int (nI sd), .ref gk, .ref gr])), (gn, .inl (cQ, 12, .inr (.inr (.inr (.inr (fun i => some (na i))))))), (q1, .inl (cI, 31, .inl (upd fm k (nI (ks_ek P ca k))))), (r_2, .inl (cI, 4, .inl (fun i => nI ((ks_dg ca) i)))), (r_92, .inl (cI, (ks_st P ca + 1), .inl h_92))] ++ (tl_T cI 12 na (ks_nr P) 4 wa (ks_wr W) rc ra (ks_rr Q) n ka (ks_kn t S mu)))) (by rw [show ks_st P ca = k + 1 by omega]) ?_
                refine g_widen (k := 3) (n := 66) (by (try dsimp only); omega) (by (try dsimp only); omega) ?_
                refine g_subT (X2 := [(gb, .inr (6, [.ref hb, .ref b, .int (nI dw), .ref gn, .ref gv, .int (nI sd), .ref gk, .ref gr])), (gn, .inl (cQ, 12, .inr (.inr (.inr (.inr (fun i => some (na i))))))), (r_92, .inl (cI, (ks_st P ca + 1), .inl h_92))]) [0, 1, 4] (by decide) rfl ?_
                exact g_aret_x B hr (Or.inr ⟨_, rfl⟩) hlocks (r_92, h_92) (rfl) (by (try dsimp only); exact ⟨fun j hj => by rw [← z1] at hj; rw [hu92.1 j hj]; exact lt_s (p := fun j => upd fm k (nI (ks_ek P ca k)) j = nI (ks_ek P ca j)) (fun a ha => by rw [pk_un (by omega)]; exact i3 a ha) pk_us j hj, by rw [← z1, hu92.2, ← z2, fw_rI hg]⟩) (by (try dsimp only) <;> rfl) dX6_run_174
            · refine g_aload B dX6_run_93 6 rfl ?_
              refine g_iconst (v := (1 : Int32)) B dX6_run_95 (by decide) ?_
              refine g_iald B hK _ 0 (tl_g1 (i := (ks_nd P ca k)) (by omega)) rfl 1 rfl (by omega) (by omega) (v := nI (P.2.1 (ks_nd P ca k))) (rfl) dX6_run_96 ?_
              refine g_iconst (v := (2 : Int32)) B dX6_run_97 (by decide) ?_
              refine g_ncmp_ne (tgt := 114) B (P.2.1 (ks_nd P ca k)) 2 rfl rfl (by omega) (by omega) dX6_run_98 (by decide) (fun c94 => ?_) (fun c94 => ?_)
              · refine g_iconst (v := (0 : Int32)) B dX6_run_114 (by decide) ?_
                refine g_istore (lv' := [(0, .ref gb), (1, .int (nI ca)), (2, .ref q1), (3, .ref r_2), (4, .int (nI (ks_nd P ca k))), (5, .int (nI k)), (6, .ref (na (ks_nd P ca k))), (7, .int (nI ((ks_dg ca) (P.1 (ks_nd P ca k))))), (8, .int (0 : Int32))]) B dX6_run_115 (by decide) [1, 2, 3, 4, 5, 6, 7, 8, 0] rfl ?_
                have hso : ks_so P (ks_nd P ca k) ca = false := by unfold ks_so; split <;> (try split) <;> simp <;> omega
                refine g_aload_n B dX6_run_117 2 rfl ?_
                refine g_iload B dX6_run_118 5 rfl ?_
                refine g_iload B dX6_run_120 8 rfl ?_
                refine g_if_eq (tgt := 132) B dX6_run_122 (by decide) (fun _ => ?_) (fun c95 => absurd (by decide) c95)
                refine g_iconst (v := (2 : Int32)) B dX6_run_132 (by decide) ?_
                refine g_iload B dX6_run_133 4 rfl ?_
                refine g_imul (v := nI (2 * (ks_nd P ca k))) B dX6_run_135 (pk_mul 2 (ks_nd P ca k)) ?_
                refine g_iconst (v := (1 : Int32)) B dX6_run_136 (by decide) ?_
                refine g_iadd (v := nI ((2 * (ks_nd P ca k)) + 1)) B dX6_run_137 (nI_add (2 * (ks_nd P ca k)) 1) ?_
                refine g_eqi (y := nI (ks_ek P ca k)) (fw_ek0 hso) ?_
                have hg : ks_go P (ks_nd P ca k) = true := ks_go_of i4 c8
                have hek : ks_ek P ca k < 24 := (ks_eg_lt i4).1
                refine g_iast B hK 2 0 rfl rfl k rfl (by omega) (by omega) (f2 := (upd fm k (nI (ks_ek P ca k)))) (rfl) (w2 := ([(gb, .inr (6, [.ref hb, .ref b, .int (nI dw), .ref gn, .ref gv, .int (nI sd), .ref gk, .ref gr])), (gn, .inl (cQ, 12, .inr (.inr (.inr (.inr (fun i => some (na i))))))), (q1, .inl (cI, 31, .inl (upd fm k (nI (ks_ek P ca k))))), (r_2, .inl (cI, 4, .inl (fun i => nI ((ks_dg ca) i))))] ++ (tl_T cI 12 na (ks_nr P) 4 wa (ks_wr W) rc ra (ks_rr Q) n ka (ks_kn t S mu)))) rfl (fun _ h => h) dX6_run_138 ?_
                refine g_iload B dX6_run_139 8 rfl ?_
                refine g_if_eq (tgt := 151) B dX6_run_141 (by decide) (fun _ => ?_) (fun c96 => absurd (by decide) c96)
                refine g_aload B dX6_run_151 6 rfl ?_
                refine g_iconst (v := (4 : Int32)) B dX6_run_153 (by decide) ?_
                refine g_iald B hK _ 0 (tl_g1 (i := (ks_nd P ca k)) (by omega)) rfl 4 rfl (by omega) (by omega) (v := ks_tI (P.2.2.2.1 (2 * (ks_nd P ca k) + 1))) (rfl) dX6_run_154 ?_
                refine g_eqi (y := ks_tI (P.2.2.2.1 (ks_ek P ca k))) (by rw [show ks_ek P ca k = 2 * ks_nd P ca k + 1 from by unfold ks_ek ks_eg; rw [hso]; rfl]) ?_
                refine g_istore (lv' := [(0, .ref gb), (1, .int (nI ca)), (2, .ref q1), (3, .ref r_2), (4, .int (ks_tI (P.2.2.2.1 (ks_ek P ca k)))), (5, .int (nI k)), (6, .ref (na (ks_nd P ca k))), (7, .int (nI ((ks_dg ca) (P.1 (ks_nd P ca k))))), (8, .int (0 : Int32))]) B dX6_run_155 (by decide) [1, 2, 3, 4, 0, 5, 6, 7, 8] rfl ?_
                refine g_iload B dX6_run_157 4 rfl ?_
                refine g_tif_ge (tgt := 175) B dX6_run_159 (by decide) (fun c97 => ?_) (fun c97 => ?_)
                · have e1 := (ks_step hg).1
                  have hn1 : ks_nd P ca (k + 1) < 12 := by rw [e1]; exact c97
                  refine g_eqlv (lv2 := [(0, .ref gb), (1, .int (nI ca)), (2, .ref q1), (3, .ref r_2), (4, .int (nI (ks_nd P ca (k + 1)))), (5, .int (nI k)), (6, .ref (na (ks_nd P ca k))), (7, .int (nI ((ks_dg ca) (P.1 (ks_nd P ca k))))), (8, .int (0 : Int32))]) (by rw [e1, ks_tI_lt c97]) ?_
                  refine g_iinc (lv' := [(0, .ref gb), (1, .int (nI ca)), (2, .ref q1), (3, .ref r_2), (4, .int (nI (ks_nd P ca (k + 1)))), (5, .int (nI (k + 1))), (6, .ref (na (ks_nd P ca k))), (7, .int (nI ((ks_dg ca) (P.1 (ks_nd P ca k))))), (8, .int (0 : Int32))]) B dX6_run_175 5 rfl (nI_1 k) (by decide) [1, 2, 3, 4, 5, 0, 6, 7, 8] rfl ?_
                  refine g_goto (tgt := 16) B dX6_run_178 (by decide) ?_
                  refine g_widen (k := 2) (n := 35) (by (try dsimp only); omega) (by (try dsimp only); omega) ?_
                  have ihx98 := ih16 (k + 1, (upd fm k (nI (ks_ek P ca k))))
                  try dsimp only at ihx98
                  exact g_pick [0, 1, 2, 3, 4, 5] rfl (ihx98 (⟨by omega, lt_s i2 hg, lt_s (p := fun j => upd fm k (nI (ks_ek P ca k)) j = nI (ks_ek P ca j)) (fun a ha => by rw [pk_un (by omega)]; exact i3 a ha) pk_us, hn1⟩) (by (try dsimp only); omega))
                · refine g_aload_n B dX6_run_162 2 rfl ?_
                  refine g_iload B dX6_run_163 5 rfl ?_
                  refine g_iconst (v := (1 : Int32)) B dX6_run_165 (by decide) ?_
                  refine g_iadd (v := nI (k + 1)) B dX6_run_166 (nI_add k 1) ?_
                  refine g_aload_n B dX6_run_167 2 rfl ?_
                  refine g_iload B dX6_run_168 5 rfl ?_
                  refine g_iald B hK 2 0 rfl rfl k rfl (by omega) (by omega) (v := nI (ks_ek P ca k)) pk_us dX6_run_170 ?_
                  refine g_callU (w2 := (fun (z9 : Nat × (Nat → Int32)) => [(gb, .inr (6, [.ref hb, .ref b, .int (nI dw), .ref gn, .ref gv, .int (nI sd), .ref gk, .ref gr])), (gn, .inl (cQ, 12, .inr (.inr (.inr (.inr (fun i => some (na i))))))), (q1, .inl (cI, 31, .inl (upd fm k (nI (ks_ek P ca k))))), (r_2, .inl (cI, 4, .inl (fun i => nI ((ks_dg ca) i)))), (z9.1, .inl (cI, ((k + 1) + 1), .inl z9.2))])) (g_runS B (b_told l (D := D) (cI := cI) (cL := cL) (cZ := cZ) (cQ := cQ) q1 (k + 1) (ks_ek P ca k) (upd fm k (nI (ks_ek P ca k))) (by first | with_reducible assumption | omega | assumption)) (gPw.pre (av := [.ref q1, .int (nI (k + 1)), .int (nI (ks_ek P ca k))]) (wc := [(q1, .inl (cI, 31, .inl (upd fm k (nI (ks_ek P ca k)))))]) hK hN [2] rfl (by decide)) gX6_run_X6_told rfl kd_X6_told ⟨by decide, by decide⟩ (st := []) rfl (Nat.le_of_ble_eq_true rfl) dX6_run_171 ⟨by (try dsimp only); omega, by (try dsimp only); omega⟩) hA (fun _ h => h) [2] [0, 1, 3] (wr := [(gb, .inr (6, [.ref hb, .ref b, .int (nI dw), .ref gn, .ref gv, .int (nI sd), .ref gk, .ref gr])), (gn, .inl (cQ, 12, .inr (.inr (.inr (.inr (fun i => some (na i))))))), (r_2, .inl (cI, 4, .inl (fun i => nI ((ks_dg ca) i))))]) rfl rfl (by decide) (by decide) [0, 1, 3, 2, 4] (by decide) (fun _ => rfl) (fun u hu => ?_)
                  obtain ⟨r_99, h_99⟩ := u
                  try dsimp only at hu ⊢
                  have hu99 := hu
                  have hnx : ¬ ks_nd P ca (k + 1) < 12 := by rw [(ks_step hg).1]; exact c97
                  obtain ⟨z1, z2, z3⟩ := fw_A (by omega) (lt_s i2 hg) hnx
                  refine g_eqw (w2 := ([(gb, .inr (6, [.ref hb, .ref b, .int (nI dw), .ref gn, .ref gv, .int (nI sd), .ref gk, .ref gr])), (gn, .inl (cQ, 12, .inr (.inr (.inr (.inr (fun i => some (na i))))))), (q1, .inl (cI, 31, .inl (upd fm k (nI (ks_ek P ca k))))), (r_2, .inl (cI, 4, .inl (fun i => nI ((ks_dg ca) i)))), (r_99, .inl (cI, (ks_st P ca + 1), .inl h_99))] ++ (tl_T cI 12 na (ks_nr P) 4 wa (ks_wr W) rc ra (ks_rr Q) n ka (ks_kn t S mu)))) (by rw [show ks_st P ca = k + 1 by omega]) ?_
                  refine g_widen (k := 3) (n := 66) (by (try dsimp only); omega) (by (try dsimp only); omega) ?_
                  refine g_subT (X2 := [(gb, .inr (6, [.ref hb, .ref b, .int (nI dw), .ref gn, .ref gv, .int (nI sd), .ref gk, .ref gr])), (gn, .inl (cQ, 12, .inr (.inr (.inr (.inr (fun i => some (na i))))))), (r_99, .inl (cI, (ks_st P ca + 1), .inl h_99))]) [0, 1, 4] (by decide) rfl ?_
                  exact g_aret_x B hr (Or.inr ⟨_, rfl⟩) hlocks (r_99, h_99) (rfl) (by (try dsimp only); exact ⟨fun j hj => by rw [← z1] at hj; rw [hu99.1 j hj]; exact lt_s (p := fun j => upd fm k (nI (ks_ek P ca k)) j = nI (ks_ek P ca j)) (fun a ha => by rw [pk_un (by omega)]; exact i3 a ha) pk_us j hj, by rw [← z1, hu99.2, ← z2, fw_rI hg]⟩) (by (try dsimp only) <;> rfl) dX6_run_174
              · refine g_iload B dX6_run_101 7 rfl ?_
                refine g_aload B dX6_run_103 6 rfl ?_
                refine g_iconst (v := (2 : Int32)) B dX6_run_105 (by decide) ?_
                refine g_iald B hK _ 0 (tl_g1 (i := (ks_nd P ca k)) (by omega)) rfl 2 rfl (by omega) (by omega) (v := nI (P.2.2.1 (ks_nd P ca k))) (rfl) dX6_run_106 ?_
                refine g_ncmp_le (tgt := 114) B ((ks_dg ca) (P.1 (ks_nd P ca k))) (P.2.2.1 (ks_nd P ca k)) rfl rfl (by omega) (by omega) dX6_run_107 (by decide) (fun c101 => ?_) (fun c101 => ?_)
                · refine g_iconst (v := (0 : Int32)) B dX6_run_114 (by decide) ?_
                  refine g_istore (lv' := [(0, .ref gb), (1, .int (nI ca)), (2, .ref q1), (3, .ref r_2), (4, .int (nI (ks_nd P ca k))), (5, .int (nI k)), (6, .ref (na (ks_nd P ca k))), (7, .int (nI ((ks_dg ca) (P.1 (ks_nd P ca k))))), (8, .int (0 : Int32))]) B dX6_run_115 (by decide) [1, 2, 3, 4, 5, 6, 7, 8, 0] rfl ?_
                  have hso : ks_so P (ks_nd P ca k) ca = false := by unfold ks_so; split <;> (try split) <;> simp <;> omega
                  refine g_aload_n B dX6_run_117 2 rfl ?_
                  refine g_iload B dX6_run_118 5 rfl ?_
                  refine g_iload B dX6_run_120 8 rfl ?_
                  refine g_if_eq (tgt := 132) B dX6_run_122 (by decide) (fun _ => ?_) (fun c102 => absurd (by decide) c102)
                  refine g_iconst (v := (2 : Int32)) B dX6_run_132 (by decide) ?_
                  refine g_iload B dX6_run_133 4 rfl ?_
                  refine g_imul (v := nI (2 * (ks_nd P ca k))) B dX6_run_135 (pk_mul 2 (ks_nd P ca k)) ?_
                  refine g_iconst (v := (1 : Int32)) B dX6_run_136 (by decide) ?_
                  refine g_iadd (v := nI ((2 * (ks_nd P ca k)) + 1)) B dX6_run_137 (nI_add (2 * (ks_nd P ca k)) 1) ?_
                  refine g_eqi (y := nI (ks_ek P ca k)) (fw_ek0 hso) ?_
                  have hg : ks_go P (ks_nd P ca k) = true := ks_go_of i4 c8
                  have hek : ks_ek P ca k < 24 := (ks_eg_lt i4).1
                  refine g_iast B hK 2 0 rfl rfl k rfl (by omega) (by omega) (f2 := (upd fm k (nI (ks_ek P ca k)))) (rfl) (w2 := ([(gb, .inr (6, [.ref hb, .ref b, .int (nI dw), .ref gn, .ref gv, .int (nI sd), .ref gk, .ref gr])), (gn, .inl (cQ, 12, .inr (.inr (.inr (.inr (fun i => some (na i))))))), (q1, .inl (cI, 31, .inl (upd fm k (nI (ks_ek P ca k))))), (r_2, .inl (cI, 4, .inl (fun i => nI ((ks_dg ca) i))))] ++ (tl_T cI 12 na (ks_nr P) 4 wa (ks_wr W) rc ra (ks_rr Q) n ka (ks_kn t S mu)))) rfl (fun _ h => h) dX6_run_138 ?_
                  refine g_iload B dX6_run_139 8 rfl ?_
                  refine g_if_eq (tgt := 151) B dX6_run_141 (by decide) (fun _ => ?_) (fun c103 => absurd (by decide) c103)
                  refine g_aload B dX6_run_151 6 rfl ?_
                  refine g_iconst (v := (4 : Int32)) B dX6_run_153 (by decide) ?_
                  refine g_iald B hK _ 0 (tl_g1 (i := (ks_nd P ca k)) (by omega)) rfl 4 rfl (by omega) (by omega) (v := ks_tI (P.2.2.2.1 (2 * (ks_nd P ca k) + 1))) (rfl) dX6_run_154 ?_
                  refine g_eqi (y := ks_tI (P.2.2.2.1 (ks_ek P ca k))) (by rw [show ks_ek P ca k = 2 * ks_nd P ca k + 1 from by unfold ks_ek ks_eg; rw [hso]; rfl]) ?_
                  refine g_istore (lv' := [(0, .ref gb), (1, .int (nI ca)), (2, .ref q1), (3, .ref r_2), (4, .int (ks_tI (P.2.2.2.1 (ks_ek P ca k)))), (5, .int (nI k)), (6, .ref (na (ks_nd P ca k))), (7, .int (nI ((ks_dg ca) (P.1 (ks_nd P ca k))))), (8, .int (0 : Int32))]) B dX6_run_155 (by decide) [1, 2, 3, 4, 0, 5, 6, 7, 8] rfl ?_
                  refine g_iload B dX6_run_157 4 rfl ?_
                  refine g_tif_ge (tgt := 175) B dX6_run_159 (by decide) (fun c104 => ?_) (fun c104 => ?_)
                  · have e1 := (ks_step hg).1
                    have hn1 : ks_nd P ca (k + 1) < 12 := by rw [e1]; exact c104
                    refine g_eqlv (lv2 := [(0, .ref gb), (1, .int (nI ca)), (2, .ref q1), (3, .ref r_2), (4, .int (nI (ks_nd P ca (k + 1)))), (5, .int (nI k)), (6, .ref (na (ks_nd P ca k))), (7, .int (nI ((ks_dg ca) (P.1 (ks_nd P ca k))))), (8, .int (0 : Int32))]) (by rw [e1, ks_tI_lt c104]) ?_
                    refine g_iinc (lv' := [(0, .ref gb), (1, .int (nI ca)), (2, .ref q1), (3, .ref r_2), (4, .int (nI (ks_nd P ca (k + 1)))), (5, .int (nI (k + 1))), (6, .ref (na (ks_nd P ca k))), (7, .int (nI ((ks_dg ca) (P.1 (ks_nd P ca k))))), (8, .int (0 : Int32))]) B dX6_run_175 5 rfl (nI_1 k) (by decide) [1, 2, 3, 4, 5, 0, 6, 7, 8] rfl ?_
                    refine g_goto (tgt := 16) B dX6_run_178 (by decide) ?_
                    refine g_widen (k := 2) (n := 35) (by (try dsimp only); omega) (by (try dsimp only); omega) ?_
                    have ihx105 := ih16 (k + 1, (upd fm k (nI (ks_ek P ca k))))
                    try dsimp only at ihx105
                    exact g_pick [0, 1, 2, 3, 4, 5] rfl (ihx105 (⟨by omega, lt_s i2 hg, lt_s (p := fun j => upd fm k (nI (ks_ek P ca k)) j = nI (ks_ek P ca j)) (fun a ha => by rw [pk_un (by omega)]; exact i3 a ha) pk_us, hn1⟩) (by (try dsimp only); omega))
                  · refine g_aload_n B dX6_run_162 2 rfl ?_
                    refine g_iload B dX6_run_163 5 rfl ?_
                    refine g_iconst (v := (1 : Int32)) B dX6_run_165 (by decide) ?_
                    refine g_iadd (v := nI (k + 1)) B dX6_run_166 (nI_add k 1) ?_
                    refine g_aload_n B dX6_run_167 2 rfl ?_
                    refine g_iload B dX6_run_168 5 rfl ?_
                    refine g_iald B hK 2 0 rfl rfl k rfl (by omega) (by omega) (v := nI (ks_ek P ca k)) pk_us dX6_run_170 ?_
                    refine g_callU (w2 := (fun (z9 : Nat × (Nat → Int32)) => [(gb, .inr (6, [.ref hb, .ref b, .int (nI dw), .ref gn, .ref gv, .int (nI sd), .ref gk, .ref gr])), (gn, .inl (cQ, 12, .inr (.inr (.inr (.inr (fun i => some (na i))))))), (q1, .inl (cI, 31, .inl (upd fm k (nI (ks_ek P ca k))))), (r_2, .inl (cI, 4, .inl (fun i => nI ((ks_dg ca) i)))), (z9.1, .inl (cI, ((k + 1) + 1), .inl z9.2))])) (g_runS B (b_told l (D := D) (cI := cI) (cL := cL) (cZ := cZ) (cQ := cQ) q1 (k + 1) (ks_ek P ca k) (upd fm k (nI (ks_ek P ca k))) (by first | with_reducible assumption | omega | assumption)) (gPw.pre (av := [.ref q1, .int (nI (k + 1)), .int (nI (ks_ek P ca k))]) (wc := [(q1, .inl (cI, 31, .inl (upd fm k (nI (ks_ek P ca k)))))]) hK hN [2] rfl (by decide)) gX6_run_X6_told rfl kd_X6_told ⟨by decide, by decide⟩ (st := []) rfl (Nat.le_of_ble_eq_true rfl) dX6_run_171 ⟨by (try dsimp only); omega, by (try dsimp only); omega⟩) hA (fun _ h => h) [2] [0, 1, 3] (wr := [(gb, .inr (6, [.ref hb, .ref b, .int (nI dw), .ref gn, .ref gv, .int (nI sd), .ref gk, .ref gr])), (gn, .inl (cQ, 12, .inr (.inr (.inr (.inr (fun i => some (na i))))))), (r_2, .inl (cI, 4, .inl (fun i => nI ((ks_dg ca) i))))]) rfl rfl (by decide) (by decide) [0, 1, 3, 2, 4] (by decide) (fun _ => rfl) (fun u hu => ?_)
                    obtain ⟨r_106, h_106⟩ := u
                    try dsimp only at hu ⊢
                    have hu106 := hu
                    have hnx : ¬ ks_nd P ca (k + 1) < 12 := by rw [(ks_step hg).1]; exact c104
                    obtain ⟨z1, z2, z3⟩ := fw_A (by omega) (lt_s i2 hg) hnx
                    refine g_eqw (w2 := ([(gb, .inr (6, [.ref hb, .ref b, .int (nI dw), .ref gn, .ref gv, .int (nI sd), .ref gk, .ref gr])), (gn, .inl (cQ, 12, .inr (.inr (.inr (.inr (fun i => some (na i))))))), (q1, .inl (cI, 31, .inl (upd fm k (nI (ks_ek P ca k))))), (r_2, .inl (cI, 4, .inl (fun i => nI ((ks_dg ca) i)))), (r_106, .inl (cI, (ks_st P ca + 1), .inl h_106))] ++ (tl_T cI 12 na (ks_nr P) 4 wa (ks_wr W) rc ra (ks_rr Q) n ka (ks_kn t S mu)))) (by rw [show ks_st P ca = k + 1 by omega]) ?_
                    refine g_widen (k := 3) (n := 66) (by (try dsimp only); omega) (by (try dsimp only); omega) ?_
                    refine g_subT (X2 := [(gb, .inr (6, [.ref hb, .ref b, .int (nI dw), .ref gn, .ref gv, .int (nI sd), .ref gk, .ref gr])), (gn, .inl (cQ, 12, .inr (.inr (.inr (.inr (fun i => some (na i))))))), (r_106, .inl (cI, (ks_st P ca + 1), .inl h_106))]) [0, 1, 4] (by decide) rfl ?_
                    exact g_aret_x B hr (Or.inr ⟨_, rfl⟩) hlocks (r_106, h_106) (rfl) (by (try dsimp only); exact ⟨fun j hj => by rw [← z1] at hj; rw [hu106.1 j hj]; exact lt_s (p := fun j => upd fm k (nI (ks_ek P ca k)) j = nI (ks_ek P ca j)) (fun a ha => by rw [pk_un (by omega)]; exact i3 a ha) pk_us j hj, by rw [← z1, hu106.2, ← z2, fw_rI hg]⟩) (by (try dsimp only) <;> rfl) dX6_run_174
                · refine g_iconst (v := (1 : Int32)) B dX6_run_110 (by decide) ?_
                  refine g_goto (tgt := 115) B dX6_run_111 (by decide) ?_
                  refine g_istore (lv' := [(0, .ref gb), (1, .int (nI ca)), (2, .ref q1), (3, .ref r_2), (4, .int (nI (ks_nd P ca k))), (5, .int (nI k)), (6, .ref (na (ks_nd P ca k))), (7, .int (nI ((ks_dg ca) (P.1 (ks_nd P ca k))))), (8, .int (1 : Int32))]) B dX6_run_115 (by decide) [1, 2, 3, 4, 5, 6, 7, 8, 0] rfl ?_
                  have hso : ks_so P (ks_nd P ca k) ca = true := by unfold ks_so; split <;> (try split) <;> simp <;> omega
                  refine g_aload_n B dX6_run_117 2 rfl ?_
                  refine g_iload B dX6_run_118 5 rfl ?_
                  refine g_iload B dX6_run_120 8 rfl ?_
                  refine g_if_eq (tgt := 132) B dX6_run_122 (by decide) (fun c107 => absurd c107 (by decide)) (fun _ => ?_)
                  refine g_iconst (v := (2 : Int32)) B dX6_run_125 (by decide) ?_
                  refine g_iload B dX6_run_126 4 rfl ?_
                  refine g_imul (v := nI (2 * (ks_nd P ca k))) B dX6_run_128 (pk_mul 2 (ks_nd P ca k)) ?_
                  refine g_goto (tgt := 138) B dX6_run_129 (by decide) ?_
                  refine g_eqi (y := nI (ks_ek P ca k)) (fw_ek1 hso) ?_
                  have hg : ks_go P (ks_nd P ca k) = true := ks_go_of i4 c8
                  have hek : ks_ek P ca k < 24 := (ks_eg_lt i4).1
                  refine g_iast B hK 2 0 rfl rfl k rfl (by omega) (by omega) (f2 := (upd fm k (nI (ks_ek P ca k)))) (rfl) (w2 := ([(gb, .inr (6, [.ref hb, .ref b, .int (nI dw), .ref gn, .ref gv, .int (nI sd), .ref gk, .ref gr])), (gn, .inl (cQ, 12, .inr (.inr (.inr (.inr (fun i => some (na i))))))), (q1, .inl (cI, 31, .inl (upd fm k (nI (ks_ek P ca k))))), (r_2, .inl (cI, 4, .inl (fun i => nI ((ks_dg ca) i))))] ++ (tl_T cI 12 na (ks_nr P) 4 wa (ks_wr W) rc ra (ks_rr Q) n ka (ks_kn t S mu)))) rfl (fun _ h => h) dX6_run_138 ?_
                  refine g_iload B dX6_run_139 8 rfl ?_
                  refine g_if_eq (tgt := 151) B dX6_run_141 (by decide) (fun c108 => absurd c108 (by decide)) (fun _ => ?_)
                  refine g_aload B dX6_run_144 6 rfl ?_
                  refine g_iconst (v := (3 : Int32)) B dX6_run_146 (by decide) ?_
                  refine g_iald B hK _ 0 (tl_g1 (i := (ks_nd P ca k)) (by omega)) rfl 3 rfl (by omega) (by omega) (v := ks_tI (P.2.2.2.1 (2 * (ks_nd P ca k)))) (rfl) dX6_run_147 ?_
                  refine g_goto (tgt := 155) B dX6_run_148 (by decide) ?_
                  refine g_eqi (y := ks_tI (P.2.2.2.1 (ks_ek P ca k))) (by rw [show ks_ek P ca k = 2 * ks_nd P ca k from by unfold ks_ek ks_eg; rw [hso]; rfl]) ?_
                  refine g_istore (lv' := [(0, .ref gb), (1, .int (nI ca)), (2, .ref q1), (3, .ref r_2), (4, .int (ks_tI (P.2.2.2.1 (ks_ek P ca k)))), (5, .int (nI k)), (6, .ref (na (ks_nd P ca k))), (7, .int (nI ((ks_dg ca) (P.1 (ks_nd P ca k))))), (8, .int (1 : Int32))]) B dX6_run_155 (by decide) [1, 2, 3, 4, 0, 5, 6, 7, 8] rfl ?_
                  refine g_iload B dX6_run_157 4 rfl ?_
                  refine g_tif_ge (tgt := 175) B dX6_run_159 (by decide) (fun c109 => ?_) (fun c109 => ?_)
                  · have e1 := (ks_step hg).1
                    have hn1 : ks_nd P ca (k + 1) < 12 := by rw [e1]; exact c109
                    refine g_eqlv (lv2 := [(0, .ref gb), (1, .int (nI ca)), (2, .ref q1), (3, .ref r_2), (4, .int (nI (ks_nd P ca (k + 1)))), (5, .int (nI k)), (6, .ref (na (ks_nd P ca k))), (7, .int (nI ((ks_dg ca) (P.1 (ks_nd P ca k))))), (8, .int (1 : Int32))]) (by rw [e1, ks_tI_lt c109]) ?_
                    refine g_iinc (lv' := [(0, .ref gb), (1, .int (nI ca)), (2, .ref q1), (3, .ref r_2), (4, .int (nI (ks_nd P ca (k + 1)))), (5, .int (nI (k + 1))), (6, .ref (na (ks_nd P ca k))), (7, .int (nI ((ks_dg ca) (P.1 (ks_nd P ca k))))), (8, .int (1 : Int32))]) B dX6_run_175 5 rfl (nI_1 k) (by decide) [1, 2, 3, 4, 5, 0, 6, 7, 8] rfl ?_
                    refine g_goto (tgt := 16) B dX6_run_178 (by decide) ?_
                    refine g_widen (k := 2) (n := 35) (by (try dsimp only); omega) (by (try dsimp only); omega) ?_
                    have ihx110 := ih16 (k + 1, (upd fm k (nI (ks_ek P ca k))))
                    try dsimp only at ihx110
                    exact g_pick [0, 1, 2, 3, 4, 5] rfl (ihx110 (⟨by omega, lt_s i2 hg, lt_s (p := fun j => upd fm k (nI (ks_ek P ca k)) j = nI (ks_ek P ca j)) (fun a ha => by rw [pk_un (by omega)]; exact i3 a ha) pk_us, hn1⟩) (by (try dsimp only); omega))
                  · refine g_aload_n B dX6_run_162 2 rfl ?_
                    refine g_iload B dX6_run_163 5 rfl ?_
                    refine g_iconst (v := (1 : Int32)) B dX6_run_165 (by decide) ?_
                    refine g_iadd (v := nI (k + 1)) B dX6_run_166 (nI_add k 1) ?_
                    refine g_aload_n B dX6_run_167 2 rfl ?_
                    refine g_iload B dX6_run_168 5 rfl ?_
                    refine g_iald B hK 2 0 rfl rfl k rfl (by omega) (by omega) (v := nI (ks_ek P ca k)) pk_us dX6_run_170 ?_
                    refine g_callU (w2 := (fun (z9 : Nat × (Nat → Int32)) => [(gb, .inr (6, [.ref hb, .ref b, .int (nI dw), .ref gn, .ref gv, .int (nI sd), .ref gk, .ref gr])), (gn, .inl (cQ, 12, .inr (.inr (.inr (.inr (fun i => some (na i))))))), (q1, .inl (cI, 31, .inl (upd fm k (nI (ks_ek P ca k))))), (r_2, .inl (cI, 4, .inl (fun i => nI ((ks_dg ca) i)))), (z9.1, .inl (cI, ((k + 1) + 1), .inl z9.2))])) (g_runS B (b_told l (D := D) (cI := cI) (cL := cL) (cZ := cZ) (cQ := cQ) q1 (k + 1) (ks_ek P ca k) (upd fm k (nI (ks_ek P ca k))) (by first | with_reducible assumption | omega | assumption)) (gPw.pre (av := [.ref q1, .int (nI (k + 1)), .int (nI (ks_ek P ca k))]) (wc := [(q1, .inl (cI, 31, .inl (upd fm k (nI (ks_ek P ca k)))))]) hK hN [2] rfl (by decide)) gX6_run_X6_told rfl kd_X6_told ⟨by decide, by decide⟩ (st := []) rfl (Nat.le_of_ble_eq_true rfl) dX6_run_171 ⟨by (try dsimp only); omega, by (try dsimp only); omega⟩) hA (fun _ h => h) [2] [0, 1, 3] (wr := [(gb, .inr (6, [.ref hb, .ref b, .int (nI dw), .ref gn, .ref gv, .int (nI sd), .ref gk, .ref gr])), (gn, .inl (cQ, 12, .inr (.inr (.inr (.inr (fun i => some (na i))))))), (r_2, .inl (cI, 4, .inl (fun i => nI ((ks_dg ca) i))))]) rfl rfl (by decide) (by decide) [0, 1, 3, 2, 4] (by decide) (fun _ => rfl) (fun u hu => ?_)
                    obtain ⟨r_111, h_111⟩ := u
                    try dsimp only at hu ⊢
                    have hu111 := hu
                    have hnx : ¬ ks_nd P ca (k + 1) < 12 := by rw [(ks_step hg).1]; exact c109
                    obtain ⟨z1, z2, z3⟩ := fw_A (by omega) (lt_s i2 hg) hnx
                    refine g_eqw (w2 := ([(gb, .inr (6, [.ref hb, .ref b, .int (nI dw), .ref gn, .ref gv, .int (nI sd), .ref gk, .ref gr])), (gn, .inl (cQ, 12, .inr (.inr (.inr (.inr (fun i => some (na i))))))), (q1, .inl (cI, 31, .inl (upd fm k (nI (ks_ek P ca k))))), (r_2, .inl (cI, 4, .inl (fun i => nI ((ks_dg ca) i)))), (r_111, .inl (cI, (ks_st P ca + 1), .inl h_111))] ++ (tl_T cI 12 na (ks_nr P) 4 wa (ks_wr W) rc ra (ks_rr Q) n ka (ks_kn t S mu)))) (by rw [show ks_st P ca = k + 1 by omega]) ?_
                    refine g_widen (k := 3) (n := 66) (by (try dsimp only); omega) (by (try dsimp only); omega) ?_
                    refine g_subT (X2 := [(gb, .inr (6, [.ref hb, .ref b, .int (nI dw), .ref gn, .ref gv, .int (nI sd), .ref gk, .ref gr])), (gn, .inl (cQ, 12, .inr (.inr (.inr (.inr (fun i => some (na i))))))), (r_111, .inl (cI, (ks_st P ca + 1), .inl h_111))]) [0, 1, 4] (by decide) rfl ?_
                    exact g_aret_x B hr (Or.inr ⟨_, rfl⟩) hlocks (r_111, h_111) (rfl) (by (try dsimp only); exact ⟨fun j hj => by rw [← z1] at hj; rw [hu111.1 j hj]; exact lt_s (p := fun j => upd fm k (nI (ks_ek P ca k)) j = nI (ks_ek P ca j)) (fun a ha => by rw [pk_un (by omega)]; exact i3 a ha) pk_us j hj, by rw [← z1, hu111.2, ← z2, fw_rI hg]⟩) (by (try dsimp only) <;> rfl) dX6_run_174
    · refine g_aload_n B dX6_run_40 2 rfl ?_
      refine g_iload B dX6_run_41 5 rfl ?_
      refine g_bipush (v := (100 : Int32)) B dX6_run_43 (by decide) ?_
      refine g_iload B dX6_run_45 4 rfl ?_
      refine g_iadd (v := nI (100 + (ks_nd P ca k))) B dX6_run_47 (nI_add 100 (ks_nd P ca k)) ?_
      refine g_callU (w2 := (fun (z9 : Nat × (Nat → Int32)) => [(gb, .inr (6, [.ref hb, .ref b, .int (nI dw), .ref gn, .ref gv, .int (nI sd), .ref gk, .ref gr])), (gn, .inl (cQ, 12, .inr (.inr (.inr (.inr (fun i => some (na i))))))), (q1, .inl (cI, 31, .inl fm)), (r_2, .inl (cI, 4, .inl (fun i => nI ((ks_dg ca) i)))), (z9.1, .inl (cI, (k + 1), .inl z9.2))])) (g_runS B (b_told l (D := D) (cI := cI) (cL := cL) (cZ := cZ) (cQ := cQ) q1 k (100 + (ks_nd P ca k)) fm (by first | with_reducible assumption | omega | assumption)) (gPw.pre (av := [.ref q1, .int (nI k), .int (nI (100 + (ks_nd P ca k)))]) (wc := [(q1, .inl (cI, 31, .inl fm))]) hK hN [2] rfl (by decide)) gX6_run_X6_told rfl kd_X6_told ⟨by decide, by decide⟩ (st := []) rfl (Nat.le_of_ble_eq_true rfl) dX6_run_48 ⟨by (try dsimp only); omega, by (try dsimp only); omega⟩) hA (fun _ h => h) [2] [0, 1, 3] (wr := [(gb, .inr (6, [.ref hb, .ref b, .int (nI dw), .ref gn, .ref gv, .int (nI sd), .ref gk, .ref gr])), (gn, .inl (cQ, 12, .inr (.inr (.inr (.inr (fun i => some (na i))))))), (r_2, .inl (cI, 4, .inl (fun i => nI ((ks_dg ca) i))))]) rfl rfl (by decide) (by decide) [0, 1, 3, 2, 4] (by decide) (fun _ => rfl) (fun u hu => ?_)
      obtain ⟨r_112, h_112⟩ := u
      try dsimp only at hu ⊢
      have hu112 := hu
      obtain ⟨z1, z2, z3⟩ := fw_B i1 i2 i4 c8
      refine g_eqw (w2 := ([(gb, .inr (6, [.ref hb, .ref b, .int (nI dw), .ref gn, .ref gv, .int (nI sd), .ref gk, .ref gr])), (gn, .inl (cQ, 12, .inr (.inr (.inr (.inr (fun i => some (na i))))))), (q1, .inl (cI, 31, .inl fm)), (r_2, .inl (cI, 4, .inl (fun i => nI ((ks_dg ca) i)))), (r_112, .inl (cI, (ks_st P ca + 1), .inl h_112))] ++ (tl_T cI 12 na (ks_nr P) 4 wa (ks_wr W) rc ra (ks_rr Q) n ka (ks_kn t S mu)))) (by rw [show ks_st P ca = k by omega]) ?_
      refine g_widen (k := 3) (n := 66) (by (try dsimp only); omega) (by (try dsimp only); omega) ?_
      refine g_subT (X2 := [(gb, .inr (6, [.ref hb, .ref b, .int (nI dw), .ref gn, .ref gv, .int (nI sd), .ref gk, .ref gr])), (gn, .inl (cQ, 12, .inr (.inr (.inr (.inr (fun i => some (na i))))))), (r_112, .inl (cI, (ks_st P ca + 1), .inl h_112))]) [0, 1, 4] (by decide) rfl ?_
      exact g_aret_x B hr (Or.inr ⟨_, rfl⟩) hlocks (r_112, h_112) (rfl) (by (try dsimp only); exact ⟨fun j hj => by rw [← z1] at hj; rw [hu112.1 j hj]; exact i3 j hj, by rw [← z1, hu112.2, z2]⟩) (by (try dsimp only) <;> rfl) dX6_run_51

