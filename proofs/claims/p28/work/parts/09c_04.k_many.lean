set_option maxHeartbeats 400000 in
set_option maxRecDepth 100000 in
theorem k_many (l : Launch) {D : va_G} {cI cL cZ cQ : ClassId} (hb : Nat) (hp : Nat) (ht : Nat) (hg : Nat) (ha : Nat) (hq : Nat) (p0 : Nat) (p1 : Nat) (p2 : Nat) (p3 : Nat) (p4 : Nat) (P : Pg) (a0 : Nat) (a1 : Nat) (a2 : Nat) (a3 : Nat) (n : Nat) (S : Int64) (f0 : Nat → Int32) (f1 : Nat → Int32) (F : Nat → Int64) (t : Nat → Nat) (g0 : Nat) (g1 : Nat) (g2 : Nat) (sd : Nat) (r0 : Nat) (r1 : Nat) (r2 : Nat) (rc : Nat) (w : Nat) (hW : ks_WP P) (hn : n ≤ 40) (hAO : ks_AO P t n f0 f1 F) (hS : ks_SK n S) (hw8 : w < 8) : PM l yX5_many wsX5_many ({ frames := 2, cells := 0, slots := 0, locals := 47 } : Room) D (gTys cI cL cZ cQ) [.ref hb, .int (nI w)] [(hb, .inr (5, [.ref hp, .ref ht, .ref hg, .ref ha, .ref hq])), (hp, .inr (2, [.ref p0, .ref p1, .ref p2, .ref p3, .ref p4])), (p3, .inl (cI, 24, .inl (fun i => ks_tI (P.2.2.2.1 i)))), (ha, .inr (0, [.ref a0, .ref a1, .ref a2, .ref a3, .int (nI n), .long S])), (a3, .inl (cL, 41, .inr (.inl F))), (hg, .inr (1, [.ref g0, .ref g1, .ref g2, .int (nI sd)])), (hq, .inr (3, [.ref r0, .ref r1, .ref r2, .int (nI rc)]))] (fun (_ : Unit) => True) (fun (_ : Unit) => some (.int (ks_my P t n S rc sd w))) := by
  refine PM.ofG cX5_many 2 (some .int) (by decide +kernel) rfl (Nat.le_of_ble_eq_true rfl) ?_
  intro p e s m below meth c B hr hlocks hname hK hN
  refine g_iload_n B dX5_many_0 1 rfl ?_
  refine g_nif_lt (tgt := 10) B w rfl (by omega) dX5_many_1 (by decide) ?_
  refine g_iload_n B dX5_many_4 1 rfl ?_
  refine g_bipush (v := (7 : Int32)) B dX5_many_5 (by decide) ?_
  refine g_ncmp_le (tgt := 20) B w 7 rfl rfl (by omega) (by omega) dX5_many_7 (by decide) (fun c2 => ?_) (fun c2 => ?_)
  rotate_left; · exfalso; omega
  refine g_iload_n B dX5_many_20 1 rfl ?_
  rcases (show w = 0 ∨ w = 1 ∨ w = 2 ∨ w = 3 ∨ w = 4 ∨ w = 5 ∨ w = 6 ∨ w = 7 by omega) with c3 | c3 | c3 | c3 | c3 | c3 | c3 | c3
  · refine g_eqi (y := (0 : Int32)) (by rw [c3]; rfl) ?_
    refine g_tableIn (off := 43) (tgt := 64) B dX5_many_21 (by decide) (by decide) (by decide) (by decide) ?_
    refine g_aload_n B dX5_many_64 0 rfl ?_
    refine g_get (C := RX5) (T := TX5) (N := 5) (ci := 5) B hK hin_X5_many_RX5 0 rfl rfl 3 (by decide) (List.mem_of_getElem? (i := 3) rfl) rfl (v := .ref ha) rfl dX5_many_65 ?_
    refine g_getN (C := RX0) (T := TX0) (N := 6) (ci := 0) B hK hin_X5_many_RX0 3 rfl rfl 4 (by decide) hN 4 rfl rfl (v := .int (nI n)) rfl dX5_many_68 ?_
    refine g_eqi (y := ks_my P t n S rc sd w) (by unfold ks_my; rw [c3]; rfl) ?_
    exact g_iret_p B hr rfl hlocks () (rfl) (trivial) dX5_many_71
  · refine g_eqi (y := (1 : Int32)) (by rw [c3]; rfl) ?_
    refine g_tableIn (off := 51) (tgt := 72) B dX5_many_21 (by decide) (by decide) (by decide) (by decide) ?_
    refine g_aload_n B dX5_many_72 0 rfl ?_
    refine g_get (C := RX5) (T := TX5) (N := 5) (ci := 5) B hK hin_X5_many_RX5 0 rfl rfl 3 (by decide) (List.mem_of_getElem? (i := 3) rfl) rfl (v := .ref ha) rfl dX5_many_73 ?_
    refine g_getN (C := RX0) (T := TX0) (N := 6) (ci := 0) B hK hin_X5_many_RX0 3 rfl rfl 5 (by decide) hN 7 rfl rfl (v := .long S) rfl dX5_many_76 ?_
    refine g_callP (g_runS B (PM.met (k_bitCount l (D := D) (cI := cI) (cL := cL) (cZ := cZ) (cQ := cQ) S )) (gPp.pre (av := [.long S]) (wc := []) hK hN [] rfl (by decide)) gX5_many_J13_bitCount_95d88 rfl kd_J13_bitCount_95d88 ⟨by decide, by decide⟩ (st := []) rfl (Nat.le_of_ble_eq_true rfl) dX5_many_79 ⟨by decide, by decide⟩) (fun u hu => ?_)
    refine g_eqi (y := ks_my P t n S rc sd w) (by unfold ks_my; rw [c3]; rfl) ?_
    exact g_iret_p B hr rfl hlocks () (rfl) (trivial) dX5_many_82
  · refine g_eqi (y := (2 : Int32)) (by rw [c3]; rfl) ?_
    refine g_tableIn (off := 62) (tgt := 83) B dX5_many_21 (by decide) (by decide) (by decide) (by decide) ?_
    refine g_aload_n B dX5_many_83 0 rfl ?_
    refine g_get (C := RX5) (T := TX5) (N := 5) (ci := 5) B hK hin_X5_many_RX5 0 rfl rfl 3 (by decide) (List.mem_of_getElem? (i := 3) rfl) rfl (v := .ref ha) rfl dX5_many_84 ?_
    refine g_aload_n B dX5_many_87 0 rfl ?_
    refine g_get (C := RX5) (T := TX5) (N := 5) (ci := 5) B hK hin_X5_many_RX5 0 rfl rfl 3 (by decide) (List.mem_of_getElem? (i := 3) rfl) rfl (v := .ref ha) rfl dX5_many_88 ?_
    refine g_getN (C := RX0) (T := TX0) (N := 6) (ci := 0) B hK hin_X5_many_RX0 3 rfl rfl 5 (by decide) hN 7 rfl rfl (v := .long S) rfl dX5_many_91 ?_
    refine g_callP (g_runV (q0 := 3) (ci := 0) B hK rfl rfl (PM.met (k_foundBy l (D := D) (cI := cI) (cL := cL) (cZ := cZ) (cQ := cQ) ha a0 a1 a2 a3 n S F S )) (gPp.pre (av := [.ref ha, .long S]) (wc := [(ha, .inr (0, [.ref a0, .ref a1, .ref a2, .ref a3, .int (nI n), .long S])), (a3, .inl (cL, 41, .inr (.inl F)))]) hK hN [3, 4] rfl (by decide)) gX5_many_X0_foundBy rfl rfl kd_X0_foundBy ⟨by decide, by decide⟩ (st := []) rfl (Nat.le_of_ble_eq_true rfl) dX5_many_94 ⟨by decide, by decide⟩) (fun u hu => ?_)
    refine g_callP (g_runS B (PM.met (k_edgesIn l (D := D) (cI := cI) (cL := cL) (cZ := cZ) (cQ := cQ) (ks_fb F S 41) )) (gPp.pre (av := [.long (ks_fb F S 41)]) (wc := []) hK hN [] rfl (by decide)) gX5_many_X5_edgesIn rfl kd_X5_edgesIn ⟨by decide, by decide⟩ (st := []) rfl (Nat.le_of_ble_eq_true rfl) dX5_many_97 ⟨by decide, by decide⟩) (fun u hu => ?_)
    refine g_eqi (y := ks_my P t n S rc sd w) (by rw [ks_fbS hS (ao_F hAO)]; unfold ks_my; rw [c3]; rfl) ?_
    exact g_iret_p B hr rfl hlocks () (rfl) (trivial) dX5_many_100
  · refine g_eqi (y := (3 : Int32)) (by rw [c3]; rfl) ?_
    refine g_tableIn (off := 80) (tgt := 101) B dX5_many_21 (by decide) (by decide) (by decide) (by decide) ?_
    refine g_aload_n B dX5_many_101 0 rfl ?_
    refine g_get (C := RX5) (T := TX5) (N := 5) (ci := 5) B hK hin_X5_many_RX5 0 rfl rfl 3 (by decide) (List.mem_of_getElem? (i := 3) rfl) rfl (v := .ref ha) rfl dX5_many_102 ?_
    refine g_aload_n B dX5_many_105 0 rfl ?_
    refine g_get (C := RX5) (T := TX5) (N := 5) (ci := 5) B hK hin_X5_many_RX5 0 rfl rfl 3 (by decide) (List.mem_of_getElem? (i := 3) rfl) rfl (v := .ref ha) rfl dX5_many_106 ?_
    refine g_callP (g_runV (q0 := 3) (ci := 0) B hK rfl rfl (PM.met (k_allKnown l (D := D) (cI := cI) (cL := cL) (cZ := cZ) (cQ := cQ) ha a0 a1 a2 a3 n S (by first | with_reducible assumption | omega | assumption))) (gPp.pre (av := [.ref ha]) (wc := [(ha, .inr (0, [.ref a0, .ref a1, .ref a2, .ref a3, .int (nI n), .long S]))]) hK hN [3] rfl (by decide)) gX5_many_X0_allKnown rfl rfl kd_X0_allKnown ⟨by decide, by decide⟩ (st := [.ref ha]) rfl (Nat.le_of_ble_eq_true rfl) dX5_many_109 ⟨by decide, by decide⟩) (fun u hu => ?_)
    refine g_callP (g_runV (q0 := 3) (ci := 0) B hK rfl rfl (PM.met (k_foundBy l (D := D) (cI := cI) (cL := cL) (cZ := cZ) (cQ := cQ) ha a0 a1 a2 a3 n S F (lShl 1 (nI n) - 1) )) (gPp.pre (av := [.ref ha, .long (lShl 1 (nI n) - 1)]) (wc := [(ha, .inr (0, [.ref a0, .ref a1, .ref a2, .ref a3, .int (nI n), .long S])), (a3, .inl (cL, 41, .inr (.inl F)))]) hK hN [3, 4] rfl (by decide)) gX5_many_X0_foundBy rfl rfl kd_X0_foundBy ⟨by decide, by decide⟩ (st := []) rfl (Nat.le_of_ble_eq_true rfl) dX5_many_112 ⟨by decide, by decide⟩) (fun u hu => ?_)
    refine g_callP (g_runS B (PM.met (k_edgesIn l (D := D) (cI := cI) (cL := cL) (cZ := cZ) (cQ := cQ) (ks_fb F (lShl 1 (nI n) - 1) 41) )) (gPp.pre (av := [.long (ks_fb F (lShl 1 (nI n) - 1) 41)]) (wc := []) hK hN [] rfl (by decide)) gX5_many_X5_edgesIn rfl kd_X5_edgesIn ⟨by decide, by decide⟩ (st := []) rfl (Nat.le_of_ble_eq_true rfl) dX5_many_115 ⟨by decide, by decide⟩) (fun u hu => ?_)
    refine g_eqi (y := ks_my P t n S rc sd w) (by show nI (ks_ed (ks_fb F (ks_all n) 41)) = _; rw [ks_fbS (ks_SK_all hn) (ao_F hAO)]; unfold ks_my; rw [c3]; rfl) ?_
    exact g_iret_p B hr rfl hlocks () (rfl) (trivial) dX5_many_118
  · refine g_eqi (y := (4 : Int32)) (by rw [c3]; rfl) ?_
    refine g_tableIn (off := 98) (tgt := 119) B dX5_many_21 (by decide) (by decide) (by decide) (by decide) ?_
    refine g_aload_n B dX5_many_119 0 rfl ?_
    refine g_get (C := RX5) (T := TX5) (N := 5) (ci := 5) B hK hin_X5_many_RX5 0 rfl rfl 3 (by decide) (List.mem_of_getElem? (i := 3) rfl) rfl (v := .ref ha) rfl dX5_many_120 ?_
    refine g_aload_n B dX5_many_123 0 rfl ?_
    refine g_get (C := RX5) (T := TX5) (N := 5) (ci := 5) B hK hin_X5_many_RX5 0 rfl rfl 3 (by decide) (List.mem_of_getElem? (i := 3) rfl) rfl (v := .ref ha) rfl dX5_many_124 ?_
    refine g_getN (C := RX0) (T := TX0) (N := 6) (ci := 0) B hK hin_X5_many_RX0 3 rfl rfl 5 (by decide) hN 7 rfl rfl (v := .long S) rfl dX5_many_127 ?_
    refine g_callP (g_runV (q0 := 3) (ci := 0) B hK rfl rfl (PM.met (k_foundBy l (D := D) (cI := cI) (cL := cL) (cZ := cZ) (cQ := cQ) ha a0 a1 a2 a3 n S F S )) (gPp.pre (av := [.ref ha, .long S]) (wc := [(ha, .inr (0, [.ref a0, .ref a1, .ref a2, .ref a3, .int (nI n), .long S])), (a3, .inl (cL, 41, .inr (.inl F)))]) hK hN [3, 4] rfl (by decide)) gX5_many_X0_foundBy rfl rfl kd_X0_foundBy ⟨by decide, by decide⟩ (st := []) rfl (Nat.le_of_ble_eq_true rfl) dX5_many_130 ⟨by decide, by decide⟩) (fun u hu => ?_)
    refine g_bipush (v := (24 : Int32)) B dX5_many_133 (by decide) ?_
    refine g_lushr (v := lShr (ks_fb F S 41) (24 : Int32)) B dX5_many_135 (rfl) ?_
    refine g_callP (g_runS B (PM.met (k_bitCount l (D := D) (cI := cI) (cL := cL) (cZ := cZ) (cQ := cQ) (lShr (ks_fb F S 41) (24 : Int32)) )) (gPp.pre (av := [.long (lShr (ks_fb F S 41) (24 : Int32))]) (wc := []) hK hN [] rfl (by decide)) gX5_many_J13_bitCount_95d88 rfl kd_J13_bitCount_95d88 ⟨by decide, by decide⟩ (st := []) rfl (Nat.le_of_ble_eq_true rfl) dX5_many_136 ⟨by decide, by decide⟩) (fun u hu => ?_)
    refine g_eqi (y := ks_my P t n S rc sd w) (by rw [ks_fbS hS (ao_F hAO)]; unfold ks_my; rw [c3]; rfl) ?_
    exact g_iret_p B hr rfl hlocks () (rfl) (trivial) dX5_many_139
  · refine g_eqi (y := (5 : Int32)) (by rw [c3]; rfl) ?_
    refine g_tableIn (off := 119) (tgt := 140) B dX5_many_21 (by decide) (by decide) (by decide) (by decide) ?_
    refine g_aload_n B dX5_many_140 0 rfl ?_
    refine g_get (C := RX5) (T := TX5) (N := 5) (ci := 5) B hK hin_X5_many_RX5 0 rfl rfl 4 (by decide) (List.mem_of_getElem? (i := 4) rfl) rfl (v := .ref hq) rfl dX5_many_141 ?_
    refine g_getN (C := RX3) (T := TX3) (N := 4) (ci := 3) B hK hin_X5_many_RX3 6 rfl rfl 3 (by decide) hN 8 rfl rfl (v := .int (nI rc)) rfl dX5_many_144 ?_
    refine g_eqi (y := ks_my P t n S rc sd w) (by unfold ks_my; rw [c3]; rfl) ?_
    exact g_iret_p B hr rfl hlocks () (rfl) (trivial) dX5_many_147
  · refine g_eqi (y := (6 : Int32)) (by rw [c3]; rfl) ?_
    refine g_tableIn (off := 127) (tgt := 148) B dX5_many_21 (by decide) (by decide) (by decide) (by decide) ?_
    refine g_aload_n B dX5_many_148 0 rfl ?_
    refine g_get (C := RX5) (T := TX5) (N := 5) (ci := 5) B hK hin_X5_many_RX5 0 rfl rfl 2 (by decide) (List.mem_of_getElem? (i := 5) rfl) rfl (v := .ref hg) rfl dX5_many_149 ?_
    refine g_getN (C := RX1) (T := TX1) (N := 4) (ci := 1) B hK hin_X5_many_RX1 5 rfl rfl 3 (by decide) hN 1 rfl rfl (v := .int (nI sd)) rfl dX5_many_152 ?_
    refine g_eqi (y := ks_my P t n S rc sd w) (by unfold ks_my; rw [c3]; rfl) ?_
    exact g_iret_p B hr rfl hlocks () (rfl) (trivial) dX5_many_155
  · refine g_eqi (y := (7 : Int32)) (by rw [c3]; rfl) ?_
    refine g_tableOut (tgt := 156) B dX5_many_21 (by decide) (by decide) ?_
    refine g_aload_n B dX5_many_156 0 rfl ?_
    refine g_get (C := RX5) (T := TX5) (N := 5) (ci := 5) B hK hin_X5_many_RX5 0 rfl rfl 0 (by decide) (List.mem_of_getElem? (i := 6) rfl) rfl (v := .ref hp) rfl dX5_many_157 ?_
    refine g_callP (g_runV (q0 := 1) (ci := 2) B hK rfl rfl (PM.met (k_reachableNodes l (D := D) (cI := cI) (cL := cL) (cZ := cZ) (cQ := cQ) hp p0 p1 p2 p3 p4 P )) (gPp.pre (av := [.ref hp]) (wc := [(hp, .inr (2, [.ref p0, .ref p1, .ref p2, .ref p3, .ref p4])), (p3, .inl (cI, 24, .inl (fun i => ks_tI (P.2.2.2.1 i))))]) hK hN [1, 2] rfl (by decide)) gX5_many_X2_reachableNodes rfl rfl kd_X2_reachableNodes ⟨by decide, by decide⟩ (st := []) rfl (Nat.le_of_ble_eq_true rfl) dX5_many_160 ⟨by decide, by decide⟩) (fun u hu => ?_)
    refine g_eqi (y := ks_my P t n S rc sd w) (by unfold ks_my; rw [c3]; rfl) ?_
    exact g_iret_p B hr rfl hlocks () (rfl) (trivial) dX5_many_163

