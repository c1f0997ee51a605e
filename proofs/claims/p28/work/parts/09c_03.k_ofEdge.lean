set_option maxHeartbeats 400000 in
set_option maxRecDepth 100000 in
theorem k_ofEdge (l : Launch) {D : va_G} {cI cL cZ cQ : ClassId} (hb : Nat) (hp : Nat) (ht : Nat) (hg : Nat) (ha : Nat) (hq : Nat) (P : Pg) (a0 : Nat) (a1 : Nat) (a2 : Nat) (a3 : Nat) (n : Nat) (S : Int64) (f0 : Nat → Int32) (f1 : Nat → Int32) (F : Nat → Int64) (t : Nat → Nat) (ed : Nat) (w : Nat) (hn : n ≤ 40) (hAO : ks_AO P t n f0 f1 F) (hS : ks_SK n S) (he : ed < 24) (hw2 : w < 3) : PM l yX5_ofEdge wsX5_ofEdge ({ frames := 2, cells := 0, slots := 0, locals := 46 } : Room) D (gTys cI cL cZ cQ) [.ref hb, .int (nI ed), .int (nI w)] [(hb, .inr (5, [.ref hp, .ref ht, .ref hg, .ref ha, .ref hq])), (ha, .inr (0, [.ref a0, .ref a1, .ref a2, .ref a3, .int (nI n), .long S])), (a3, .inl (cL, 41, .inr (.inl F)))] (fun (_ : Unit) => True) (fun (_ : Unit) => some (.int (ks_oe P t n S ed w))) := by
  refine PM.ofG cX5_ofEdge 5 (some .int) (by decide +kernel) rfl (Nat.le_of_ble_eq_true rfl) ?_
  intro p e s m below meth c B hr hlocks hname hK hN
  refine g_iload_n B dX5_ofEdge_0 1 rfl ?_
  refine g_callP (g_runS B (PM.met (k_checkEdge_n l (D := D) (cI := cI) (cL := cL) (cZ := cZ) (cQ := cQ) ed (by first | with_reducible assumption | omega | assumption))) (gPp.pre (av := [.int (nI ed)]) (wc := []) hK hN [] rfl (by decide)) gX5_ofEdge_X5_checkEdge rfl kd_X5_checkEdge ⟨by decide, by decide⟩ (st := []) rfl (Nat.le_of_ble_eq_true rfl) dX5_ofEdge_1 ⟨by decide, by decide⟩) (fun u hu => ?_)
  refine g_iload_n B dX5_ofEdge_4 2 rfl ?_
  refine g_nif_lt (tgt := 13) B w rfl (by omega) dX5_ofEdge_5 (by decide) ?_
  refine g_iload_n B dX5_ofEdge_8 2 rfl ?_
  refine g_iconst (v := (2 : Int32)) B dX5_ofEdge_9 (by decide) ?_
  refine g_ncmp_le (tgt := 23) B w 2 rfl rfl (by omega) (by omega) dX5_ofEdge_10 (by decide) (fun c3 => ?_) (fun c3 => ?_)
  rotate_left; · exfalso; omega
  refine g_aload_n B dX5_ofEdge_23 0 rfl ?_
  refine g_get (C := RX5) (T := TX5) (N := 5) (ci := 5) B hK hin_X5_ofEdge_RX5 0 rfl rfl 3 (by decide) (List.mem_of_getElem? (i := 3) rfl) rfl (v := .ref ha) rfl dX5_ofEdge_24 ?_
  refine g_iload_n B dX5_ofEdge_27 1 rfl ?_
  refine g_callP (g_runV (q0 := 1) (ci := 0) B hK rfl rfl (PM.met (k_coverersOf l (D := D) (cI := cI) (cL := cL) (cZ := cZ) (cQ := cQ) ha a0 a1 a2 a3 n S F ed (by first | with_reducible assumption | omega | assumption) (by first | with_reducible assumption | omega | assumption))) (gPp.pre (av := [.ref ha, .int (nI ed)]) (wc := [(ha, .inr (0, [.ref a0, .ref a1, .ref a2, .ref a3, .int (nI n), .long S])), (a3, .inl (cL, 41, .inr (.inl F)))]) hK hN [1, 2] rfl (by decide)) gX5_ofEdge_X0_coverersOf rfl rfl kd_X0_coverersOf ⟨by decide, by decide⟩ (st := []) rfl (Nat.le_of_ble_eq_true rfl) dX5_ofEdge_28 ⟨by decide, by decide⟩) (fun u hu => ?_)
  refine g_lstore_n (lv' := [(0, .ref hb), (1, .int (nI ed)), (2, .int (nI w)), (3, .long (ks_cv F ed n))]) B dX5_ofEdge_31 rfl (by decide) [1, 2, 3, 0] rfl ?_
  refine g_iload_n B dX5_ofEdge_32 2 rfl ?_
  rcases (show w = 0 ∨ w = 1 ∨ w = 2 by omega) with c5 | c5 | c5
  · refine g_eqi (y := (0 : Int32)) (by rw [c5]; rfl) ?_
    refine g_lookup (off := 27) (tgt := 60) B dX5_ofEdge_33 (by decide) (by decide) (by decide) ?_
    refine g_lload_n B dX5_ofEdge_60 3 rfl ?_
    refine g_aload_n B dX5_ofEdge_61 0 rfl ?_
    refine g_get (C := RX5) (T := TX5) (N := 5) (ci := 5) B hK hin_X5_ofEdge_RX5 0 rfl rfl 3 (by decide) (List.mem_of_getElem? (i := 3) rfl) rfl (v := .ref ha) rfl dX5_ofEdge_62 ?_
    refine g_getN (C := RX0) (T := TX0) (N := 6) (ci := 0) B hK hin_X5_ofEdge_RX0 1 rfl rfl 5 (by decide) hN 7 rfl rfl (v := .long S) rfl dX5_ofEdge_65 ?_
    refine g_land (v := ((ks_cv F ed n) &&& S)) B dX5_ofEdge_68 (rfl) ?_
    refine g_callP (g_runS B (PM.met (k_bitCount l (D := D) (cI := cI) (cL := cL) (cZ := cZ) (cQ := cQ) ((ks_cv F ed n) &&& S) )) (gPp.pre (av := [.long ((ks_cv F ed n) &&& S)]) (wc := []) hK hN [] rfl (by decide)) gX5_ofEdge_J13_bitCount_95d88 rfl kd_J13_bitCount_95d88 ⟨by decide, by decide⟩ (st := []) rfl (Nat.le_of_ble_eq_true rfl) dX5_ofEdge_69 ⟨by decide, by decide⟩) (fun u hu => ?_)
    refine g_eqi (y := ks_oe P t n S ed w) (by (first | rw [ks_cv_cong (ao_F hAO)] | skip); unfold ks_oe; rw [c5]; rfl) ?_
    exact g_iret_p B hr rfl hlocks () (rfl) (trivial) dX5_ofEdge_72
  · refine g_eqi (y := (1 : Int32)) (by rw [c5]; rfl) ?_
    refine g_lookup (off := 40) (tgt := 73) B dX5_ofEdge_33 (by decide) (by decide) (by decide) ?_
    refine g_lload_n B dX5_ofEdge_73 3 rfl ?_
    refine g_callP (g_runS B (PM.met (k_bitCount l (D := D) (cI := cI) (cL := cL) (cZ := cZ) (cQ := cQ) (ks_cv F ed n) )) (gPp.pre (av := [.long (ks_cv F ed n)]) (wc := []) hK hN [] rfl (by decide)) gX5_ofEdge_J13_bitCount_95d88 rfl kd_J13_bitCount_95d88 ⟨by decide, by decide⟩ (st := []) rfl (Nat.le_of_ble_eq_true rfl) dX5_ofEdge_74 ⟨by decide, by decide⟩) (fun u hu => ?_)
    refine g_eqi (y := ks_oe P t n S ed w) (by (first | rw [ks_cv_cong (ao_F hAO)] | skip); unfold ks_oe; rw [c5]; rfl) ?_
    exact g_iret_p B hr rfl hlocks () (rfl) (trivial) dX5_ofEdge_77
  · refine g_eqi (y := (2 : Int32)) (by rw [c5]; rfl) ?_
    refine g_lookup (off := 45) (tgt := 78) B dX5_ofEdge_33 (by decide) (by decide) (by decide) ?_
    refine g_lload_n B dX5_ofEdge_78 3 rfl ?_
    refine g_lconst (v := (0 : Int64)) B dX5_ofEdge_79 rfl ?_
    refine g_lcmp (v := (lg_cmp (ks_cv F ed n) (0 : Int64))) B dX5_ofEdge_80 rfl ?_
    refine g_lif_ne (tgt := 88) B dX5_ofEdge_81 (by decide) (fun c8 => ?_) (fun c8 => ?_)
    · refine g_lload_n B dX5_ofEdge_88 3 rfl ?_
      refine g_callP (g_runS B (PM.met (k_tz l (D := D) (cI := cI) (cL := cL) (cZ := cZ) (cQ := cQ) (ks_cv F ed n) )) (gPp.pre (av := [.long (ks_cv F ed n)]) (wc := []) hK hN [] rfl (by decide)) gX5_ofEdge_J13_numberOfTrailingZeros_95d88 rfl kd_J13_numberOfTrailingZeros_95d88 ⟨by decide, by decide⟩ (st := []) rfl (Nat.le_of_ble_eq_true rfl) dX5_ofEdge_89 ⟨by decide, by decide⟩) (fun u hu => ?_)
      have hz := c8; rw [ks_cv_cong (ao_F hAO)] at hz
      refine g_eqi (y := ks_oe P t n S ed w) (by (first | rw [ks_cv_cong (ao_F hAO)] | skip); unfold ks_oe; rw [c5]; rw [if_neg (by decide), if_neg (by decide)]; rw [if_neg hz]) ?_
      exact g_iret_p B hr rfl hlocks () (rfl) (trivial) dX5_ofEdge_92
    · refine g_iconst (v := (-1 : Int32)) B dX5_ofEdge_84 (by decide) ?_
      refine g_goto (tgt := 92) B dX5_ofEdge_85 (by decide) ?_
      have hz := c8; rw [ks_cv_cong (ao_F hAO)] at hz
      refine g_eqi (y := ks_oe P t n S ed w) (by (first | rw [ks_cv_cong (ao_F hAO)] | skip); unfold ks_oe; rw [c5]; rw [if_neg (by decide), if_neg (by decide)]; rw [if_pos hz]) ?_
      exact g_iret_p B hr rfl hlocks () (rfl) (trivial) dX5_ofEdge_92

