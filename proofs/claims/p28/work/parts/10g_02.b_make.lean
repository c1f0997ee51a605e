set_option maxHeartbeats 4000000 in
set_option maxRecDepth 100000 in
theorem b_make (l : Launch) {D : va_G} {cI cL cZ cQ : ClassId} (gb : Nat) (gn : Nat) (gv : Nat) (gk : Nat) (gr : Nat) (hb : Nat) (b : Nat) (dw : Nat) (sd : Nat) (na : Nat → Nat) (wa : Nat → Nat) (ra : Nat → Nat) (ka : Nat → Nat) (P : Pg) (W : Wg) (Q : Rg) (rc : Nat) (t : Nat → Nat) (n : Nat) (S : Int64) (mu : Nat → Nat) (hw : ks_WW W) (hsd : sd < 10000) : WM l yX6_make wsX6_make ({ frames := 1, cells := 1, slots := 4, locals := 21 } : Room) D (gTys cI cL cZ cQ) [.ref gb] ([(gb, .inr (6, [.ref hb, .ref b, .int (nI dw), .ref gn, .ref gv, .int (nI sd), .ref gk, .ref gr])), (gv, .inl (cQ, 4, .inr (.inr (.inr (.inr (fun i => some (wa i)))))))] ++ (tl_T cI 12 na (ks_nr P) 4 wa (ks_wr W) rc ra (ks_rr Q) n ka (ks_kn t S mu))) (fun (_ : Unit) => True) (fun (_ : Unit) => some (.int (nI ((ks_nc W sd).1)))) (fun (_ : Unit) => ([(gb, .inr (6, [.ref hb, .ref b, .int (nI dw), .ref gn, .ref gv, .int (nI ((ks_nc W sd).2)), .ref gk, .ref gr])), (gv, .inl (cQ, 4, .inr (.inr (.inr (.inr (fun i => some (wa i)))))))] ++ (tl_T cI 12 na (ks_nr P) 4 wa (ks_wr W) rc ra (ks_rr Q) n ka (ks_kn t S mu)))) := by
  refine WM.ofG cX6_make 7 (some .int) (by decide +kernel) rfl (Nat.le_of_ble_eq_true rfl) ?_
  intro p e s m below meth c A hA B hr hlocks hname hK hN
  refine g_iconst (v := (4 : Int32)) B dX6_make_0 (by decide) ?_
  refine g_newa B hK hA 0 rfl rfl (List.mem_of_getElem? (i := 1) rfl) rfl (4, .inl (fun _ => (0 : Int32))) (cellI_new 4) (by decide) (by decide) (by decide) (by decide) (by decide) dX6_make_1 (fun q1 => ?_)
  refine g_perm (tl_sw _ _ _) ?_
  refine g_eqw (w2 := ([(gb, .inr (6, [.ref hb, .ref b, .int (nI dw), .ref gn, .ref gv, .int (nI sd), .ref gk, .ref gr])), (gv, .inl (cQ, 4, .inr (.inr (.inr (.inr (fun i => some (wa i))))))), (q1, .inl (cI, 4, .inl (fun _ => (0 : Int32))))] ++ (tl_T cI 12 na (ks_nr P) 4 wa (ks_wr W) rc ra (ks_rr Q) n ka (ks_kn t S mu)))) rfl ?_
  refine g_astore_n (lv' := [(0, .ref gb), (1, .ref q1)]) B dX6_make_3 rfl (by decide) [1, 0] rfl ?_
  refine g_eqw (w2 := ([(gb, .inr (6, [.ref hb, .ref b, .int (nI dw), .ref gn, .ref gv, .int (nI sd), .ref gk, .ref gr])), (gv, .inl (cQ, 4, .inr (.inr (.inr (.inr (fun i => some (wa i))))))), (q1, .inl (cI, 4, .inl (fun i => nI ((fun _ => 0) i))))] ++ (tl_T cI 12 na (ks_nr P) 4 wa (ks_wr W) rc ra (ks_rr Q) n ka (ks_kn t S mu)))) rfl ?_
  refine g_iconst (v := (0 : Int32)) B dX6_make_4 (by decide) ?_
  refine g_istore_n (lv' := [(0, .ref gb), (1, .ref q1), (2, .int (0 : Int32))]) B dX6_make_5 rfl (by decide) [1, 2, 0] rfl ?_
  refine g_widen (k := 1) (n := 4) (by (try dsimp only); omega) (by (try dsimp only); omega) ?_
  refine g_loop (σ := Nat × (Nat → Nat)) (fun x9 => x9.1 ≤ 4 ∧ (∀ j, j < x9.1 → x9.2 j = (ks_nv W (ks_nk W sd j).2 j).1) ∧ ∀ j, x9.1 ≤ j → x9.2 j = 0) (fun x9 => 5 - x9.1) (fun x9 => 1) (fun x9 => 4) (fun x9 => ([(gb, .inr (6, [.ref hb, .ref b, .int (nI dw), .ref gn, .ref gv, .int (nI ((ks_nk W sd x9.1).2)), .ref gk, .ref gr])), (gv, .inl (cQ, 4, .inr (.inr (.inr (.inr (fun i => some (wa i))))))), (q1, .inl (cI, 4, .inl (fun i => nI (x9.2 i))))] ++ (tl_T cI 12 na (ks_nr P) 4 wa (ks_wr W) rc ra (ks_rr Q) n ka (ks_kn t S mu)))) (fun x9 => [(0, .ref gb), (1, .ref q1), (2, .int (nI x9.1))]) (fun x9 hI ih6 => ?_) (0, (fun _ => 0)) (by (try dsimp only); exact ⟨by omega, fun j h => absurd h (Nat.not_lt_zero j), fun j _ => rfl⟩) rfl rfl (by (try dsimp only) <;> rfl) (by (try dsimp only) <;> rfl)
  obtain ⟨k, gm⟩ := x9
  try dsimp only at hI ih6 ⊢
  obtain ⟨i1, i2, i3⟩ := hI
  have v0 := ks_nk_2 (W := W) hsd k
  have v1 := hw k
  have v2 := ks_dr_lt (ks_nk W sd k).2
  have v3 := ks_dr_lt (ks_dr (ks_nk W sd k).2)
  have v4 : ks_ws W k = W.1 k + W.2.1 k + W.2.2 k := rfl
  refine g_iload_n B dX6_make_6 2 rfl ?_
  refine g_iconst (v := (4 : Int32)) B dX6_make_7 (by decide) ?_
  refine g_ncmp_ge (tgt := 135) B k 4 rfl rfl (by omega) (by omega) dX6_make_8 (by decide) (fun c3 => ?_) (fun c3 => ?_)
  · refine g_aload_n B dX6_make_135 1 rfl ?_
    have hk4 : k = 4 := by omega
    refine g_eqw (w2 := ([(gb, .inr (6, [.ref hb, .ref b, .int (nI dw), .ref gn, .ref gv, .int (nI ((ks_nc W sd).2)), .ref gk, .ref gr])), (gv, .inl (cQ, 4, .inr (.inr (.inr (.inr (fun i => some (wa i))))))), (q1, .inl (cI, 4, .inl (fun i => nI (gm i))))] ++ (tl_T cI 12 na (ks_nr P) 4 wa (ks_wr W) rc ra (ks_rr Q) n ka (ks_kn t S mu)))) (by rw [hk4]; rfl) ?_
    refine g_callP (g_runS B (PM.met (b_tell l (D := D) (cI := cI) (cL := cL) (cZ := cZ) (cQ := cQ) q1 gm )) (gPp.pre (av := [.ref q1]) (wc := [(q1, .inl (cI, 4, .inl (fun i => nI (gm i))))]) hK hN [2] rfl (by decide)) gX6_make_X6_tell rfl kd_X6_tell ⟨by decide, by decide⟩ (st := []) rfl (Nat.le_of_ble_eq_true rfl) dX6_make_136 ⟨by (try dsimp only); omega, by (try dsimp only); omega⟩) (fun u hu => ?_)
    refine g_eqi (y := nI (ks_nc W sd).1) (by rw [tl_nk (W := W) (sd := sd) (fun j hj => i2 j (by omega))]) ?_
    refine g_widen (k := 1) (n := 4) (by (try dsimp only); omega) (by (try dsimp only); omega) ?_
    refine g_subT (X2 := [(gb, .inr (6, [.ref hb, .ref b, .int (nI dw), .ref gn, .ref gv, .int (nI ((ks_nc W sd).2)), .ref gk, .ref gr])), (gv, .inl (cQ, 4, .inr (.inr (.inr (.inr (fun i => some (wa i)))))))]) [0, 1] (by decide) rfl ?_
    exact g_iret_x B hr rfl hlocks () (rfl) (trivial) rfl dX6_make_139
  · refine g_aload_n B dX6_make_11 0 rfl ?_
    refine g_get (C := RX6) (T := TX6) (N := 8) (ci := 6) B hK hin_X6_make_RX6 0 rfl rfl 4 (by decide) (List.mem_of_getElem? (i := 2) rfl) rfl (v := .ref gv) rfl dX6_make_12 ?_
    refine g_iload_n B dX6_make_15 2 rfl ?_
    refine g_qald B hK 1 3 rfl rfl k rfl (by omega) (by omega) (r := (wa k)) rfl dX6_make_16 ?_
    refine g_astore_n (lv' := [(0, .ref gb), (1, .ref q1), (2, .int (nI k)), (3, .ref (wa k))]) B dX6_make_17 rfl (by decide) [1, 2, 3, 0] rfl ?_
    refine g_aload_n B dX6_make_18 3 rfl ?_
    refine g_iconst (v := (0 : Int32)) B dX6_make_19 (by decide) ?_
    refine g_iald B hK _ 0 (tl_g2 (i := k) (by omega)) rfl 0 rfl (by omega) (by omega) (v := nI (W.1 k)) (rfl) dX6_make_20 ?_
    refine g_aload_n B dX6_make_21 3 rfl ?_
    refine g_iconst (v := (1 : Int32)) B dX6_make_22 (by decide) ?_
    refine g_iald B hK _ 0 (tl_g2 (i := k) (by omega)) rfl 1 rfl (by omega) (by omega) (v := nI (W.2.1 k)) (rfl) dX6_make_23 ?_
    refine g_iadd (v := nI ((W.1 k) + (W.2.1 k))) B dX6_make_24 (nI_add (W.1 k) (W.2.1 k)) ?_
    refine g_aload_n B dX6_make_25 3 rfl ?_
    refine g_iconst (v := (2 : Int32)) B dX6_make_26 (by decide) ?_
    refine g_iald B hK _ 0 (tl_g2 (i := k) (by omega)) rfl 2 rfl (by omega) (by omega) (v := nI (W.2.2 k)) (rfl) dX6_make_27 ?_
    refine g_iadd (v := nI (((W.1 k) + (W.2.1 k)) + (W.2.2 k))) B dX6_make_28 (nI_add ((W.1 k) + (W.2.1 k)) (W.2.2 k)) ?_
    refine g_nif_ne (tgt := 35) B (((W.1 k) + (W.2.1 k)) + (W.2.2 k)) rfl (by omega) dX6_make_29 (by decide) (fun c6 => ?_) (fun c6 => ?_)
    · refine g_aload_n B dX6_make_35 0 rfl ?_
      refine g_aload_n B dX6_make_36 3 rfl ?_
      refine g_iconst (v := (0 : Int32)) B dX6_make_37 (by decide) ?_
      refine g_iald B hK _ 0 (tl_g2 (i := k) (by omega)) rfl 0 rfl (by omega) (by omega) (v := nI (W.1 k)) (rfl) dX6_make_38 ?_
      refine g_aload_n B dX6_make_39 3 rfl ?_
      refine g_iconst (v := (1 : Int32)) B dX6_make_40 (by decide) ?_
      refine g_iald B hK _ 0 (tl_g2 (i := k) (by omega)) rfl 1 rfl (by omega) (by omega) (v := nI (W.2.1 k)) (rfl) dX6_make_41 ?_
      refine g_iadd (v := nI ((W.1 k) + (W.2.1 k))) B dX6_make_42 (nI_add (W.1 k) (W.2.1 k)) ?_
      refine g_aload_n B dX6_make_43 3 rfl ?_
      refine g_iconst (v := (2 : Int32)) B dX6_make_44 (by decide) ?_
      refine g_iald B hK _ 0 (tl_g2 (i := k) (by omega)) rfl 2 rfl (by omega) (by omega) (v := nI (W.2.2 k)) (rfl) dX6_make_45 ?_
      refine g_iadd (v := nI (((W.1 k) + (W.2.1 k)) + (W.2.2 k))) B dX6_make_46 (nI_add ((W.1 k) + (W.2.1 k)) (W.2.2 k)) ?_
      refine g_callU (w2 := (fun (_ : Unit) => [(gb, .inr (6, [.ref hb, .ref b, .int (nI dw), .ref gn, .ref gv, .int (nI (ks_dr ((ks_nk W sd k).2))), .ref gk, .ref gr])), (gv, .inl (cQ, 4, .inr (.inr (.inr (.inr (fun i => some (wa i))))))), (q1, .inl (cI, 4, .inl (fun i => nI (gm i))))])) (g_runV (q0 := 0) (ci := 6) B hK rfl rfl (b_drawn l (D := D) (cI := cI) (cL := cL) (cZ := cZ) (cQ := cQ) gb gn gv gk gr hb dw ((ks_nk W sd k).2) b (((W.1 k) + (W.2.1 k)) + (W.2.2 k)) (by first | with_reducible assumption | omega | assumption) (by first | with_reducible assumption | omega | assumption) (by first | with_reducible assumption | omega | assumption)) (gPw.pre (av := [.ref gb, .int (nI (((W.1 k) + (W.2.1 k)) + (W.2.2 k)))]) (wc := [(gb, .inr (6, [.ref hb, .ref b, .int (nI dw), .ref gn, .ref gv, .int (nI ((ks_nk W sd k).2)), .ref gk, .ref gr]))]) hK hN [0] rfl (by decide)) gX6_make_X6_drawn rfl rfl kd_X6_drawn ⟨by decide, by decide⟩ (st := []) rfl (Nat.le_of_ble_eq_true rfl) dX6_make_47 ⟨by (try dsimp only); omega, by (try dsimp only); omega⟩) hA (fun _ h => h) [0] [1, 2] (wr := [(gv, .inl (cQ, 4, .inr (.inr (.inr (.inr (fun i => some (wa i))))))), (q1, .inl (cI, 4, .inl (fun i => nI (gm i))))]) rfl rfl (by decide) (by decide) [2, 0, 1] (by decide) (fun _ => rfl) (fun u hu => ?_)
      refine g_istore (lv' := [(0, .ref gb), (1, .ref q1), (2, .int (nI k)), (3, .ref (wa k)), (4, .int (nI (ks_dr ((ks_nk W sd k).2) / 100 % (((W.1 k) + (W.2.1 k)) + (W.2.2 k)))))]) B dX6_make_50 (by decide) [1, 2, 3, 4, 0] rfl ?_
      refine g_iload B dX6_make_52 4 rfl ?_
      refine g_aload_n B dX6_make_54 3 rfl ?_
      refine g_iconst (v := (0 : Int32)) B dX6_make_55 (by decide) ?_
      refine g_iald B hK _ 0 (tl_g2 (i := k) (by omega)) rfl 0 rfl (by omega) (by omega) (v := nI (W.1 k)) (rfl) dX6_make_56 ?_
      have w5 := Nat.mod_lt (ks_dr ((ks_nk W sd k).2) / 100) (show 0 < W.1 k + W.2.1 k + W.2.2 k by omega)
      refine g_ncmp_ge (tgt := 64) B (ks_dr ((ks_nk W sd k).2) / 100 % (((W.1 k) + (W.2.1 k)) + (W.2.2 k))) (W.1 k) rfl rfl (by omega) (by omega) dX6_make_57 (by decide) (fun c9 => ?_) (fun c9 => ?_)
      · refine g_iconst (v := (0 : Int32)) B dX6_make_64 (by decide) ?_
        refine g_istore (lv' := [(0, .ref gb), (1, .ref q1), (2, .int (nI k)), (3, .ref (wa k)), (4, .int (nI (ks_dr ((ks_nk W sd k).2) / 100 % (((W.1 k) + (W.2.1 k)) + (W.2.2 k))))), (5, .int (0 : Int32))]) B dX6_make_65 (by decide) [1, 2, 3, 4, 5, 0] rfl ?_
        refine g_iload B dX6_make_67 4 rfl ?_
        refine g_aload_n B dX6_make_69 3 rfl ?_
        refine g_iconst (v := (0 : Int32)) B dX6_make_70 (by decide) ?_
        refine g_iald B hK _ 0 (tl_g2 (i := k) (by omega)) rfl 0 rfl (by omega) (by omega) (v := nI (W.1 k)) (rfl) dX6_make_71 ?_
        refine g_aload_n B dX6_make_72 3 rfl ?_
        refine g_iconst (v := (1 : Int32)) B dX6_make_73 (by decide) ?_
        refine g_iald B hK _ 0 (tl_g2 (i := k) (by omega)) rfl 1 rfl (by omega) (by omega) (v := nI (W.2.1 k)) (rfl) dX6_make_74 ?_
        refine g_iadd (v := nI ((W.1 k) + (W.2.1 k))) B dX6_make_75 (nI_add (W.1 k) (W.2.1 k)) ?_
        refine g_ncmp_lt (tgt := 83) B (ks_dr ((ks_nk W sd k).2) / 100 % (((W.1 k) + (W.2.1 k)) + (W.2.2 k))) ((W.1 k) + (W.2.1 k)) rfl rfl (by omega) (by omega) dX6_make_76 (by decide) (fun c11 => ?_) (fun c11 => ?_)
        · refine g_iconst (v := (0 : Int32)) B dX6_make_83 (by decide) ?_
          refine g_istore (lv' := [(0, .ref gb), (1, .ref q1), (2, .int (nI k)), (3, .ref (wa k)), (4, .int (nI (ks_dr ((ks_nk W sd k).2) / 100 % (((W.1 k) + (W.2.1 k)) + (W.2.2 k))))), (5, .int (0 : Int32)), (6, .int (0 : Int32))]) B dX6_make_84 (by decide) [1, 2, 3, 4, 5, 6, 0] rfl ?_
          refine g_aload_n B dX6_make_86 1 rfl ?_
          refine g_iload_n B dX6_make_87 2 rfl ?_
          refine g_iload B dX6_make_88 5 rfl ?_
          refine g_if_eq (tgt := 97) B dX6_make_90 (by decide) (fun _ => ?_) (fun c12 => absurd (by decide) c12)
          refine g_iload B dX6_make_97 6 rfl ?_
          refine g_if_eq (tgt := 107) B dX6_make_99 (by decide) (fun _ => ?_) (fun c13 => absurd (by decide) c13)
          refine g_iconst (v := (3 : Int32)) B dX6_make_107 (by decide) ?_
          refine g_aload_n B dX6_make_108 0 rfl ?_
          refine g_iload B dX6_make_109 5 rfl ?_
          refine g_if_ne (tgt := 119) B dX6_make_111 (by decide) (fun c14 => absurd (by decide) c14) (fun _ => ?_)
          refine g_iload B dX6_make_114 6 rfl ?_
          refine g_if_eq (tgt := 123) B dX6_make_116 (by decide) (fun _ => ?_) (fun c15 => absurd (by decide) c15)
          refine g_iconst (v := (4 : Int32)) B dX6_make_123 (by decide) ?_
          refine g_callU (w2 := (fun (_ : Unit) => [(gb, .inr (6, [.ref hb, .ref b, .int (nI dw), .ref gn, .ref gv, .int (nI (ks_dr (ks_dr ((ks_nk W sd k).2)))), .ref gk, .ref gr])), (gv, .inl (cQ, 4, .inr (.inr (.inr (.inr (fun i => some (wa i))))))), (q1, .inl (cI, 4, .inl (fun i => nI (gm i))))])) (g_runV (q0 := 0) (ci := 6) B hK rfl rfl (b_drawn l (D := D) (cI := cI) (cL := cL) (cZ := cZ) (cQ := cQ) gb gn gv gk gr hb dw (ks_dr ((ks_nk W sd k).2)) b 4 (by first | with_reducible assumption | omega | assumption) (by first | with_reducible assumption | omega | assumption) (by first | with_reducible assumption | omega | assumption)) (gPw.pre (av := [.ref gb, .int (4 : Int32)]) (wc := [(gb, .inr (6, [.ref hb, .ref b, .int (nI dw), .ref gn, .ref gv, .int (nI (ks_dr ((ks_nk W sd k).2))), .ref gk, .ref gr]))]) hK hN [0] rfl (by decide)) gX6_make_X6_drawn rfl rfl kd_X6_drawn ⟨by decide, by decide⟩ (st := [.int (3 : Int32), .int (nI k), .ref q1]) rfl (Nat.le_of_ble_eq_true rfl) dX6_make_124 ⟨by (try dsimp only); omega, by (try dsimp only); omega⟩) hA (fun _ h => h) [0] [1, 2] (wr := [(gv, .inl (cQ, 4, .inr (.inr (.inr (.inr (fun i => some (wa i))))))), (q1, .inl (cI, 4, .inl (fun i => nI (gm i))))]) rfl rfl (by decide) (by decide) [2, 0, 1] (by decide) (fun _ => rfl) (fun u hu => ?_)
          refine g_iadd (v := nI (3 + (ks_dr (ks_dr ((ks_nk W sd k).2)) / 100 % 4))) B dX6_make_127 (nI_add 3 (ks_dr (ks_dr ((ks_nk W sd k).2)) / 100 % 4)) ?_
          refine g_iast B hK 2 0 rfl rfl k rfl (by omega) (by omega) (f2 := (fun i => nI ((updN gm k (3 + (ks_dr (ks_dr ((ks_nk W sd k).2)) / 100 % 4))) i))) (upd_nI _ _ _) (w2 := ([(gb, .inr (6, [.ref hb, .ref b, .int (nI dw), .ref gn, .ref gv, .int (nI (ks_dr (ks_dr ((ks_nk W sd k).2)))), .ref gk, .ref gr])), (gv, .inl (cQ, 4, .inr (.inr (.inr (.inr (fun i => some (wa i))))))), (q1, .inl (cI, 4, .inl (fun i => nI ((updN gm k (3 + (ks_dr (ks_dr ((ks_nk W sd k).2)) / 100 % 4))) i))))] ++ (tl_T cI 12 na (ks_nr P) 4 wa (ks_wr W) rc ra (ks_rr Q) n ka (ks_kn t S mu)))) rfl (fun _ h => h) dX6_make_128 ?_
          have hv : ks_nv W (ks_nk W sd k).2 k = (3 + (ks_dr (ks_dr ((ks_nk W sd k).2)) / 100 % 4), ks_dr (ks_dr ((ks_nk W sd k).2))) := by unfold ks_nv; rw [v4, if_neg (by omega), if_neg (by omega), if_pos (by omega)]
          refine g_eqw (w2 := ([(gb, .inr (6, [.ref hb, .ref b, .int (nI dw), .ref gn, .ref gv, .int (nI ((ks_nk W sd (k + 1)).2)), .ref gk, .ref gr])), (gv, .inl (cQ, 4, .inr (.inr (.inr (.inr (fun i => some (wa i))))))), (q1, .inl (cI, 4, .inl (fun i => nI ((updN gm k (3 + (ks_dr (ks_dr ((ks_nk W sd k).2)) / 100 % 4))) i))))] ++ (tl_T cI 12 na (ks_nr P) 4 wa (ks_wr W) rc ra (ks_rr Q) n ka (ks_kn t S mu)))) (by rw [show (ks_nk W sd (k + 1)).2 = (ks_nv W (ks_nk W sd k).2 k).2 from rfl, hv]) ?_
          refine g_iinc (lv' := [(0, .ref gb), (1, .ref q1), (2, .int (nI (k + 1))), (3, .ref (wa k)), (4, .int (nI (ks_dr ((ks_nk W sd k).2) / 100 % (((W.1 k) + (W.2.1 k)) + (W.2.2 k))))), (5, .int (0 : Int32)), (6, .int (0 : Int32))]) B dX6_make_129 2 rfl (nI_1 k) (by decide) [1, 2, 0, 3, 4, 5, 6] rfl ?_
          refine g_goto (tgt := 6) B dX6_make_132 (by decide) ?_
          refine g_widen (k := 1) (n := 4) (by (try dsimp only); omega) (by (try dsimp only); omega) ?_
          have ihx17 := ih6 (k + 1, (updN gm k (3 + (ks_dr (ks_dr ((ks_nk W sd k).2)) / 100 % 4))))
          try dsimp only at ihx17
          exact g_pick [0, 1, 2] rfl (ihx17 (⟨by omega, lt_s (p := fun j => updN gm k _ j = (ks_nv W (ks_nk W sd j).2 j).1) (fun a ha => by rw [updN_ne (by omega)]; exact i2 a ha) (by rw [updN_at, hv]), fun j hj => by rw [updN_ne (by omega)]; exact i3 j (by omega)⟩) (by (try dsimp only); omega))
        · refine g_iconst (v := (1 : Int32)) B dX6_make_79 (by decide) ?_
          refine g_goto (tgt := 84) B dX6_make_80 (by decide) ?_
          refine g_istore (lv' := [(0, .ref gb), (1, .ref q1), (2, .int (nI k)), (3, .ref (wa k)), (4, .int (nI (ks_dr ((ks_nk W sd k).2) / 100 % (((W.1 k) + (W.2.1 k)) + (W.2.2 k))))), (5, .int (0 : Int32)), (6, .int (1 : Int32))]) B dX6_make_84 (by decide) [1, 2, 3, 4, 5, 6, 0] rfl ?_
          refine g_aload_n B dX6_make_86 1 rfl ?_
          refine g_iload_n B dX6_make_87 2 rfl ?_
          refine g_iload B dX6_make_88 5 rfl ?_
          refine g_if_eq (tgt := 97) B dX6_make_90 (by decide) (fun _ => ?_) (fun c18 => absurd (by decide) c18)
          refine g_iload B dX6_make_97 6 rfl ?_
          refine g_if_eq (tgt := 107) B dX6_make_99 (by decide) (fun c19 => absurd c19 (by decide)) (fun _ => ?_)
          refine g_bipush (v := (7 : Int32)) B dX6_make_102 (by decide) ?_
          refine g_goto (tgt := 108) B dX6_make_104 (by decide) ?_
          refine g_aload_n B dX6_make_108 0 rfl ?_
          refine g_iload B dX6_make_109 5 rfl ?_
          refine g_if_ne (tgt := 119) B dX6_make_111 (by decide) (fun c20 => absurd (by decide) c20) (fun _ => ?_)
          refine g_iload B dX6_make_114 6 rfl ?_
          refine g_if_eq (tgt := 123) B dX6_make_116 (by decide) (fun c21 => absurd c21 (by decide)) (fun _ => ?_)
          refine g_iconst (v := (3 : Int32)) B dX6_make_119 (by decide) ?_
          refine g_goto (tgt := 124) B dX6_make_120 (by decide) ?_
          refine g_callU (w2 := (fun (_ : Unit) => [(gb, .inr (6, [.ref hb, .ref b, .int (nI dw), .ref gn, .ref gv, .int (nI (ks_dr (ks_dr ((ks_nk W sd k).2)))), .ref gk, .ref gr])), (gv, .inl (cQ, 4, .inr (.inr (.inr (.inr (fun i => some (wa i))))))), (q1, .inl (cI, 4, .inl (fun i => nI (gm i))))])) (g_runV (q0 := 0) (ci := 6) B hK rfl rfl (b_drawn l (D := D) (cI := cI) (cL := cL) (cZ := cZ) (cQ := cQ) gb gn gv gk gr hb dw (ks_dr ((ks_nk W sd k).2)) b 3 (by first | with_reducible assumption | omega | assumption) (by first | with_reducible assumption | omega | assumption) (by first | with_reducible assumption | omega | assumption)) (gPw.pre (av := [.ref gb, .int (3 : Int32)]) (wc := [(gb, .inr (6, [.ref hb, .ref b, .int (nI dw), .ref gn, .ref gv, .int (nI (ks_dr ((ks_nk W sd k).2))), .ref gk, .ref gr]))]) hK hN [0] rfl (by decide)) gX6_make_X6_drawn rfl rfl kd_X6_drawn ⟨by decide, by decide⟩ (st := [.int (7 : Int32), .int (nI k), .ref q1]) rfl (Nat.le_of_ble_eq_true rfl) dX6_make_124 ⟨by (try dsimp only); omega, by (try dsimp only); omega⟩) hA (fun _ h => h) [0] [1, 2] (wr := [(gv, .inl (cQ, 4, .inr (.inr (.inr (.inr (fun i => some (wa i))))))), (q1, .inl (cI, 4, .inl (fun i => nI (gm i))))]) rfl rfl (by decide) (by decide) [2, 0, 1] (by decide) (fun _ => rfl) (fun u hu => ?_)
          refine g_iadd (v := nI (7 + (ks_dr (ks_dr ((ks_nk W sd k).2)) / 100 % 3))) B dX6_make_127 (nI_add 7 (ks_dr (ks_dr ((ks_nk W sd k).2)) / 100 % 3)) ?_
          refine g_iast B hK 2 0 rfl rfl k rfl (by omega) (by omega) (f2 := (fun i => nI ((updN gm k (7 + (ks_dr (ks_dr ((ks_nk W sd k).2)) / 100 % 3))) i))) (upd_nI _ _ _) (w2 := ([(gb, .inr (6, [.ref hb, .ref b, .int (nI dw), .ref gn, .ref gv, .int (nI (ks_dr (ks_dr ((ks_nk W sd k).2)))), .ref gk, .ref gr])), (gv, .inl (cQ, 4, .inr (.inr (.inr (.inr (fun i => some (wa i))))))), (q1, .inl (cI, 4, .inl (fun i => nI ((updN gm k (7 + (ks_dr (ks_dr ((ks_nk W sd k).2)) / 100 % 3))) i))))] ++ (tl_T cI 12 na (ks_nr P) 4 wa (ks_wr W) rc ra (ks_rr Q) n ka (ks_kn t S mu)))) rfl (fun _ h => h) dX6_make_128 ?_
          have hv : ks_nv W (ks_nk W sd k).2 k = (7 + (ks_dr (ks_dr ((ks_nk W sd k).2)) / 100 % 3), ks_dr (ks_dr ((ks_nk W sd k).2))) := by unfold ks_nv; rw [v4, if_neg (by omega), if_neg (by omega), if_neg (by omega)]
          refine g_eqw (w2 := ([(gb, .inr (6, [.ref hb, .ref b, .int (nI dw), .ref gn, .ref gv, .int (nI ((ks_nk W sd (k + 1)).2)), .ref gk, .ref gr])), (gv, .inl (cQ, 4, .inr (.inr (.inr (.inr (fun i => some (wa i))))))), (q1, .inl (cI, 4, .inl (fun i => nI ((updN gm k (7 + (ks_dr (ks_dr ((ks_nk W sd k).2)) / 100 % 3))) i))))] ++ (tl_T cI 12 na (ks_nr P) 4 wa (ks_wr W) rc ra (ks_rr Q) n ka (ks_kn t S mu)))) (by rw [show (ks_nk W sd (k + 1)).2 = (ks_nv W (ks_nk W sd k).2 k).2 from rfl, hv]) ?_
          refine g_iinc (lv' := [(0, .ref gb), (1, .ref q1), (2, .int (nI (k + 1))), (3, .ref (wa k)), (4, .int (nI (ks_dr ((ks_nk W sd k).2) / 100 % (((W.1 k) + (W.2.1 k)) + (W.2.2 k))))), (5, .int (0 : Int32)), (6, .int (1 : Int32))]) B dX6_make_129 2 rfl (nI_1 k) (by decide) [1, 2, 0, 3, 4, 5, 6] rfl ?_
          refine g_goto (tgt := 6) B dX6_make_132 (by decide) ?_
          refine g_widen (k := 1) (n := 4) (by (try dsimp only); omega) (by (try dsimp only); omega) ?_
          have ihx23 := ih6 (k + 1, (updN gm k (7 + (ks_dr (ks_dr ((ks_nk W sd k).2)) / 100 % 3))))
          try dsimp only at ihx23
          exact g_pick [0, 1, 2] rfl (ihx23 (⟨by omega, lt_s (p := fun j => updN gm k _ j = (ks_nv W (ks_nk W sd j).2 j).1) (fun a ha => by rw [updN_ne (by omega)]; exact i2 a ha) (by rw [updN_at, hv]), fun j hj => by rw [updN_ne (by omega)]; exact i3 j (by omega)⟩) (by (try dsimp only); omega))
      · refine g_iconst (v := (1 : Int32)) B dX6_make_60 (by decide) ?_
        refine g_goto (tgt := 65) B dX6_make_61 (by decide) ?_
        refine g_istore (lv' := [(0, .ref gb), (1, .ref q1), (2, .int (nI k)), (3, .ref (wa k)), (4, .int (nI (ks_dr ((ks_nk W sd k).2) / 100 % (((W.1 k) + (W.2.1 k)) + (W.2.2 k))))), (5, .int (1 : Int32))]) B dX6_make_65 (by decide) [1, 2, 3, 4, 5, 0] rfl ?_
        refine g_iload B dX6_make_67 4 rfl ?_
        refine g_aload_n B dX6_make_69 3 rfl ?_
        refine g_iconst (v := (0 : Int32)) B dX6_make_70 (by decide) ?_
        refine g_iald B hK _ 0 (tl_g2 (i := k) (by omega)) rfl 0 rfl (by omega) (by omega) (v := nI (W.1 k)) (rfl) dX6_make_71 ?_
        refine g_aload_n B dX6_make_72 3 rfl ?_
        refine g_iconst (v := (1 : Int32)) B dX6_make_73 (by decide) ?_
        refine g_iald B hK _ 0 (tl_g2 (i := k) (by omega)) rfl 1 rfl (by omega) (by omega) (v := nI (W.2.1 k)) (rfl) dX6_make_74 ?_
        refine g_iadd (v := nI ((W.1 k) + (W.2.1 k))) B dX6_make_75 (nI_add (W.1 k) (W.2.1 k)) ?_
        refine g_ncmp_lt (tgt := 83) B (ks_dr ((ks_nk W sd k).2) / 100 % (((W.1 k) + (W.2.1 k)) + (W.2.2 k))) ((W.1 k) + (W.2.1 k)) rfl rfl (by omega) (by omega) dX6_make_76 (by decide) (fun c25 => ?_) (fun c25 => ?_)
        · refine g_iconst (v := (0 : Int32)) B dX6_make_83 (by decide) ?_
          refine g_istore (lv' := [(0, .ref gb), (1, .ref q1), (2, .int (nI k)), (3, .ref (wa k)), (4, .int (nI (ks_dr ((ks_nk W sd k).2) / 100 % (((W.1 k) + (W.2.1 k)) + (W.2.2 k))))), (5, .int (1 : Int32)), (6, .int (0 : Int32))]) B dX6_make_84 (by decide) [1, 2, 3, 4, 5, 6, 0] rfl ?_
          refine g_aload_n B dX6_make_86 1 rfl ?_
          refine g_iload_n B dX6_make_87 2 rfl ?_
          refine g_iload B dX6_make_88 5 rfl ?_
          refine g_if_eq (tgt := 97) B dX6_make_90 (by decide) (fun c26 => absurd c26 (by decide)) (fun _ => ?_)
          refine g_iconst (v := (0 : Int32)) B dX6_make_93 (by decide) ?_
          refine g_goto (tgt := 108) B dX6_make_94 (by decide) ?_
          refine g_aload_n B dX6_make_108 0 rfl ?_
          refine g_iload B dX6_make_109 5 rfl ?_
          refine g_if_ne (tgt := 119) B dX6_make_111 (by decide) (fun _ => ?_) (fun c27 => absurd c27 (by decide))
          refine g_iconst (v := (3 : Int32)) B dX6_make_119 (by decide) ?_
          refine g_goto (tgt := 124) B dX6_make_120 (by decide) ?_
          refine g_callU (w2 := (fun (_ : Unit) => [(gb, .inr (6, [.ref hb, .ref b, .int (nI dw), .ref gn, .ref gv, .int (nI (ks_dr (ks_dr ((ks_nk W sd k).2)))), .ref gk, .ref gr])), (gv, .inl (cQ, 4, .inr (.inr (.inr (.inr (fun i => some (wa i))))))), (q1, .inl (cI, 4, .inl (fun i => nI (gm i))))])) (g_runV (q0 := 0) (ci := 6) B hK rfl rfl (b_drawn l (D := D) (cI := cI) (cL := cL) (cZ := cZ) (cQ := cQ) gb gn gv gk gr hb dw (ks_dr ((ks_nk W sd k).2)) b 3 (by first | with_reducible assumption | omega | assumption) (by first | with_reducible assumption | omega | assumption) (by first | with_reducible assumption | omega | assumption)) (gPw.pre (av := [.ref gb, .int (3 : Int32)]) (wc := [(gb, .inr (6, [.ref hb, .ref b, .int (nI dw), .ref gn, .ref gv, .int (nI (ks_dr ((ks_nk W sd k).2))), .ref gk, .ref gr]))]) hK hN [0] rfl (by decide)) gX6_make_X6_drawn rfl rfl kd_X6_drawn ⟨by decide, by decide⟩ (st := [.int (0 : Int32), .int (nI k), .ref q1]) rfl (Nat.le_of_ble_eq_true rfl) dX6_make_124 ⟨by (try dsimp only); omega, by (try dsimp only); omega⟩) hA (fun _ h => h) [0] [1, 2] (wr := [(gv, .inl (cQ, 4, .inr (.inr (.inr (.inr (fun i => some (wa i))))))), (q1, .inl (cI, 4, .inl (fun i => nI (gm i))))]) rfl rfl (by decide) (by decide) [2, 0, 1] (by decide) (fun _ => rfl) (fun u hu => ?_)
          refine g_iadd (v := nI (ks_dr (ks_dr ((ks_nk W sd k).2)) / 100 % 3)) B dX6_make_127 ((nI_add 0 (ks_dr (ks_dr ((ks_nk W sd k).2)) / 100 % 3)).trans (by rw [Nat.zero_add])) ?_
          refine g_iast B hK 2 0 rfl rfl k rfl (by omega) (by omega) (f2 := (fun i => nI ((updN gm k (ks_dr (ks_dr ((ks_nk W sd k).2)) / 100 % 3)) i))) (upd_nI _ _ _) (w2 := ([(gb, .inr (6, [.ref hb, .ref b, .int (nI dw), .ref gn, .ref gv, .int (nI (ks_dr (ks_dr ((ks_nk W sd k).2)))), .ref gk, .ref gr])), (gv, .inl (cQ, 4, .inr (.inr (.inr (.inr (fun i => some (wa i))))))), (q1, .inl (cI, 4, .inl (fun i => nI ((updN gm k (ks_dr (ks_dr ((ks_nk W sd k).2)) / 100 % 3)) i))))] ++ (tl_T cI 12 na (ks_nr P) 4 wa (ks_wr W) rc ra (ks_rr Q) n ka (ks_kn t S mu)))) rfl (fun _ h => h) dX6_make_128 ?_
          have hv : ks_nv W (ks_nk W sd k).2 k = (ks_dr (ks_dr ((ks_nk W sd k).2)) / 100 % 3, ks_dr (ks_dr ((ks_nk W sd k).2))) := by unfold ks_nv; rw [v4, if_neg (by omega), if_pos (by omega)]
          refine g_eqw (w2 := ([(gb, .inr (6, [.ref hb, .ref b, .int (nI dw), .ref gn, .ref gv, .int (nI ((ks_nk W sd (k + 1)).2)), .ref gk, .ref gr])), (gv, .inl (cQ, 4, .inr (.inr (.inr (.inr (fun i => some (wa i))))))), (q1, .inl (cI, 4, .inl (fun i => nI ((updN gm k (ks_dr (ks_dr ((ks_nk W sd k).2)) / 100 % 3)) i))))] ++ (tl_T cI 12 na (ks_nr P) 4 wa (ks_wr W) rc ra (ks_rr Q) n ka (ks_kn t S mu)))) (by rw [show (ks_nk W sd (k + 1)).2 = (ks_nv W (ks_nk W sd k).2 k).2 from rfl, hv]) ?_
          refine g_iinc (lv' := [(0, .ref gb), (1, .ref q1), (2, .int (nI (k + 1))), (3, .ref (wa k)), (4, .int (nI (ks_dr ((ks_nk W sd k).2) / 100 % (((W.1 k) + (W.2.1 k)) + (W.2.2 k))))), (5, .int (1 : Int32)), (6, .int (0 : Int32))]) B dX6_make_129 2 rfl (nI_1 k) (by decide) [1, 2, 0, 3, 4, 5, 6] rfl ?_
          refine g_goto (tgt := 6) B dX6_make_132 (by decide) ?_
          refine g_widen (k := 1) (n := 4) (by (try dsimp only); omega) (by (try dsimp only); omega) ?_
          have ihx29 := ih6 (k + 1, (updN gm k (ks_dr (ks_dr ((ks_nk W sd k).2)) / 100 % 3)))
          try dsimp only at ihx29
          exact g_pick [0, 1, 2] rfl (ihx29 (⟨by omega, lt_s (p := fun j => updN gm k _ j = (ks_nv W (ks_nk W sd j).2 j).1) (fun a ha => by rw [updN_ne (by omega)]; exact i2 a ha) (by rw [updN_at, hv]), fun j hj => by rw [updN_ne (by omega)]; exact i3 j (by omega)⟩) (by (try dsimp only); omega))
        · refine g_iconst (v := (1 : Int32)) B dX6_make_79 (by decide) ?_
          refine g_goto (tgt := 84) B dX6_make_80 (by decide) ?_
          refine g_istore (lv' := [(0, .ref gb), (1, .ref q1), (2, .int (nI k)), (3, .ref (wa k)), (4, .int (nI (ks_dr ((ks_nk W sd k).2) / 100 % (((W.1 k) + (W.2.1 k)) + (W.2.2 k))))), (5, .int (1 : Int32)), (6, .int (1 : Int32))]) B dX6_make_84 (by decide) [1, 2, 3, 4, 5, 6, 0] rfl ?_
          refine g_aload_n B dX6_make_86 1 rfl ?_
          refine g_iload_n B dX6_make_87 2 rfl ?_
          refine g_iload B dX6_make_88 5 rfl ?_
          refine g_if_eq (tgt := 97) B dX6_make_90 (by decide) (fun c30 => absurd c30 (by decide)) (fun _ => ?_)
          refine g_iconst (v := (0 : Int32)) B dX6_make_93 (by decide) ?_
          refine g_goto (tgt := 108) B dX6_make_94 (by decide) ?_
          refine g_aload_n B dX6_make_108 0 rfl ?_
          refine g_iload B dX6_make_109 5 rfl ?_
          refine g_if_ne (tgt := 119) B dX6_make_111 (by decide) (fun _ => ?_) (fun c31 => absurd c31 (by decide))
          refine g_iconst (v := (3 : Int32)) B dX6_make_119 (by decide) ?_
          refine g_goto (tgt := 124) B dX6_make_120 (by decide) ?_
          refine g_callU (w2 := (fun (_ : Unit) => [(gb, .inr (6, [.ref hb, .ref b, .int (nI dw), .ref gn, .ref gv, .int (nI (ks_dr (ks_dr ((ks_nk W sd k).2)))), .ref gk, .ref gr])), (gv, .inl (cQ, 4, .inr (.inr (.inr (.inr (fun i => some (wa i))))))), (q1, .inl (cI, 4, .inl (fun i => nI (gm i))))])) (g_runV (q0 := 0) (ci := 6) B hK rfl rfl (b_drawn l (D := D) (cI := cI) (cL := cL) (cZ := cZ) (cQ := cQ) gb gn gv gk gr hb dw (ks_dr ((ks_nk W sd k).2)) b 3 (by first | with_reducible assumption | omega | assumption) (by first | with_reducible assumption | omega | assumption) (by first | with_reducible assumption | omega | assumption)) (gPw.pre (av := [.ref gb, .int (3 : Int32)]) (wc := [(gb, .inr (6, [.ref hb, .ref b, .int (nI dw), .ref gn, .ref gv, .int (nI (ks_dr ((ks_nk W sd k).2))), .ref gk, .ref gr]))]) hK hN [0] rfl (by decide)) gX6_make_X6_drawn rfl rfl kd_X6_drawn ⟨by decide, by decide⟩ (st := [.int (0 : Int32), .int (nI k), .ref q1]) rfl (Nat.le_of_ble_eq_true rfl) dX6_make_124 ⟨by (try dsimp only); omega, by (try dsimp only); omega⟩) hA (fun _ h => h) [0] [1, 2] (wr := [(gv, .inl (cQ, 4, .inr (.inr (.inr (.inr (fun i => some (wa i))))))), (q1, .inl (cI, 4, .inl (fun i => nI (gm i))))]) rfl rfl (by decide) (by decide) [2, 0, 1] (by decide) (fun _ => rfl) (fun u hu => ?_)
          refine g_iadd (v := nI (ks_dr (ks_dr ((ks_nk W sd k).2)) / 100 % 3)) B dX6_make_127 ((nI_add 0 (ks_dr (ks_dr ((ks_nk W sd k).2)) / 100 % 3)).trans (by rw [Nat.zero_add])) ?_
          refine g_iast B hK 2 0 rfl rfl k rfl (by omega) (by omega) (f2 := (fun i => nI ((updN gm k (ks_dr (ks_dr ((ks_nk W sd k).2)) / 100 % 3)) i))) (upd_nI _ _ _) (w2 := ([(gb, .inr (6, [.ref hb, .ref b, .int (nI dw), .ref gn, .ref gv, .int (nI (ks_dr (ks_dr ((ks_nk W sd k).2)))), .ref gk, .ref gr])), (gv, .inl (cQ, 4, .inr (.inr (.inr (.inr (fun i => some (wa i))))))), (q1, .inl (cI, 4, .inl (fun i => nI ((updN gm k (ks_dr (ks_dr ((ks_nk W sd k).2)) / 100 % 3)) i))))] ++ (tl_T cI 12 na (ks_nr P) 4 wa (ks_wr W) rc ra (ks_rr Q) n ka (ks_kn t S mu)))) rfl (fun _ h => h) dX6_make_128 ?_
          have hv : ks_nv W (ks_nk W sd k).2 k = (ks_dr (ks_dr ((ks_nk W sd k).2)) / 100 % 3, ks_dr (ks_dr ((ks_nk W sd k).2))) := by unfold ks_nv; rw [v4, if_neg (by omega), if_pos (by omega)]
          refine g_eqw (w2 := ([(gb, .inr (6, [.ref hb, .ref b, .int (nI dw), .ref gn, .ref gv, .int (nI ((ks_nk W sd (k + 1)).2)), .ref gk, .ref gr])), (gv, .inl (cQ, 4, .inr (.inr (.inr (.inr (fun i => some (wa i))))))), (q1, .inl (cI, 4, .inl (fun i => nI ((updN gm k (ks_dr (ks_dr ((ks_nk W sd k).2)) / 100 % 3)) i))))] ++ (tl_T cI 12 na (ks_nr P) 4 wa (ks_wr W) rc ra (ks_rr Q) n ka (ks_kn t S mu)))) (by rw [show (ks_nk W sd (k + 1)).2 = (ks_nv W (ks_nk W sd k).2 k).2 from rfl, hv]) ?_
          refine g_iinc (lv' := [(0, .ref gb), (1, .ref q1), (2, .int (nI (k + 1))), (3, .ref (wa k)), (4, .int (nI (ks_dr ((ks_nk W sd k).2) / 100 % (((W.1 k) + (W.2.1 k)) + (W.2.2 k))))), (5, .int (1 : Int32)), (6, .int (1 : Int32))]) B dX6_make_129 2 rfl (nI_1 k) (by decide) [1, 2, 0, 3, 4, 5, 6] rfl ?_
          refine g_goto (tgt := 6) B dX6_make_132 (by decide) ?_
          refine g_widen (k := 1) (n := 4) (by (try dsimp only); omega) (by (try dsimp only); omega) ?_
          have ihx33 := ih6 (k + 1, (updN gm k (ks_dr (ks_dr ((ks_nk W sd k).2)) / 100 % 3)))
          try dsimp only at ihx33
          exact g_pick [0, 1, 2] rfl (ihx33 (⟨by omega, lt_s (p := fun j => updN gm k _ j = (ks_nv W (ks_nk W sd j).2 j).1) (fun a ha => by rw [updN_ne (by omega)]; exact i2 a ha) (by rw [updN_at, hv]), fun j hj => by rw [updN_ne (by omega)]; exact i3 j (by omega)⟩) (by (try dsimp only); omega))
    · refine g_goto (tgt := 129) B dX6_make_32 (by decide) ?_
      have hv : ks_nv W (ks_nk W sd k).2 k = (0, (ks_nk W sd k).2) := by unfold ks_nv; rw [v4, if_pos (by omega)]
      refine g_eqw (w2 := ([(gb, .inr (6, [.ref hb, .ref b, .int (nI dw), .ref gn, .ref gv, .int (nI ((ks_nk W sd (k + 1)).2)), .ref gk, .ref gr])), (gv, .inl (cQ, 4, .inr (.inr (.inr (.inr (fun i => some (wa i))))))), (q1, .inl (cI, 4, .inl (fun i => nI (gm i))))] ++ (tl_T cI 12 na (ks_nr P) 4 wa (ks_wr W) rc ra (ks_rr Q) n ka (ks_kn t S mu)))) (by rw [show (ks_nk W sd (k + 1)).2 = (ks_nv W (ks_nk W sd k).2 k).2 from rfl, hv]) ?_
      refine g_iinc (lv' := [(0, .ref gb), (1, .ref q1), (2, .int (nI (k + 1))), (3, .ref (wa k))]) B dX6_make_129 2 rfl (nI_1 k) (by decide) [1, 2, 0, 3] rfl ?_
      refine g_goto (tgt := 6) B dX6_make_132 (by decide) ?_
      refine g_widen (k := 1) (n := 4) (by (try dsimp only); omega) (by (try dsimp only); omega) ?_
      have ihx34 := ih6 (k + 1, gm)
      try dsimp only at ihx34
      exact g_pick [0, 1, 2] rfl (ihx34 (⟨by omega, lt_s i2 (by rw [i3 k (Nat.le_refl k), hv]), fun j hj => i3 j (by omega)⟩) (by (try dsimp only); omega))

