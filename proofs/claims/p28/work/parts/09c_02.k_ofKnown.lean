set_option maxHeartbeats 400000 in
set_option maxRecDepth 100000 in
theorem k_ofKnown (l : Launch) {D : va_G} {cI cL cZ cQ : ClassId} (hb : Nat) (hp : Nat) (ht : Nat) (hg : Nat) (ha : Nat) (hq : Nat) (P : Pg) (a0 : Nat) (a1 : Nat) (a2 : Nat) (a3 : Nat) (n : Nat) (S : Int64) (f0 : Nat → Int32) (f1 : Nat → Int32) (F : Nat → Int64) (mu : Nat → Nat) (t : Nat → Nat) (k : Nat) (w : Nat) (hn : n ≤ 40) (hAO : ks_AO P t n f0 f1 F) (hS : ks_SK n S) (hmu : ∀ i, mu i < 1000) (hk : k < n) (hw6 : w < 7) : PM l yX5_ofKnown wsX5_ofKnown ({ frames := 4, cells := 0, slots := 0, locals := 94 } : Room) D (gTys cI cL cZ cQ) [.ref hb, .int (nI k), .int (nI w)] [(hb, .inr (5, [.ref hp, .ref ht, .ref hg, .ref ha, .ref hq])), (ha, .inr (0, [.ref a0, .ref a1, .ref a2, .ref a3, .int (nI n), .long S])), (a0, .inl (cI, 41, .inl f0)), (a1, .inl (cI, 41, .inl f1)), (a2, .inl (cI, 41, .inl (fun i => nI (mu i)))), (a3, .inl (cL, 41, .inr (.inl F)))] (fun (_ : Unit) => True) (fun (_ : Unit) => some (.int (ks_ok P t mu S k w))) := by
  refine PM.ofG cX5_ofKnown 3 (some .int) (by decide +kernel) rfl (Nat.le_of_ble_eq_true rfl) ?_
  intro p e s m below meth c B hr hlocks hname hK hN
  refine g_iload_n B dX5_ofKnown_0 1 rfl ?_
  refine g_nif_lt (tgt := 21) B k rfl (by omega) dX5_ofKnown_1 (by decide) ?_
  refine g_iload_n B dX5_ofKnown_4 1 rfl ?_
  refine g_aload_n B dX5_ofKnown_5 0 rfl ?_
  refine g_get (C := RX5) (T := TX5) (N := 5) (ci := 5) B hK hin_X5_ofKnown_RX5 0 rfl rfl 3 (by decide) (List.mem_of_getElem? (i := 5) rfl) rfl (v := .ref ha) rfl dX5_ofKnown_6 ?_
  refine g_getN (C := RX0) (T := TX0) (N := 6) (ci := 0) B hK hin_X5_ofKnown_RX0 1 rfl rfl 4 (by decide) hN 4 rfl rfl (v := .int (nI n)) rfl dX5_ofKnown_9 ?_
  refine g_ncmp_ge (tgt := 21) B k n rfl rfl (by omega) (by omega) dX5_ofKnown_12 (by decide) (fun c2 => ?_) (fun c2 => ?_)
  · exfalso; omega
  refine g_iload_n B dX5_ofKnown_15 1 rfl ?_
  refine g_bipush (v := (40 : Int32)) B dX5_ofKnown_16 (by decide) ?_
  refine g_ncmp_lt (tgt := 31) B k 40 rfl rfl (by omega) (by omega) dX5_ofKnown_18 (by decide) (fun c4 => ?_) (fun c4 => ?_)
  rotate_left; · exfalso; omega
  refine g_iload_n B dX5_ofKnown_31 2 rfl ?_
  refine g_nif_lt (tgt := 41) B w rfl (by omega) dX5_ofKnown_32 (by decide) ?_
  refine g_iload_n B dX5_ofKnown_35 2 rfl ?_
  refine g_bipush (v := (6 : Int32)) B dX5_ofKnown_36 (by decide) ?_
  refine g_ncmp_le (tgt := 51) B w 6 rfl rfl (by omega) (by omega) dX5_ofKnown_38 (by decide) (fun c6 => ?_) (fun c6 => ?_)
  rotate_left; · exfalso; omega
  refine g_iload_n B dX5_ofKnown_51 2 rfl ?_
  rcases (show w = 0 ∨ w = 1 ∨ w = 2 ∨ w = 3 ∨ w = 4 ∨ w = 5 ∨ w = 6 by omega) with c7 | c7 | c7 | c7 | c7 | c7 | c7
  · refine g_eqi (y := (0 : Int32)) (by rw [c7]; rfl) ?_
    refine g_tableIn (off := 40) (tgt := 92) B dX5_ofKnown_52 (by decide) (by decide) (by decide) (by decide) ?_
    refine g_aload_n B dX5_ofKnown_92 0 rfl ?_
    refine g_get (C := RX5) (T := TX5) (N := 5) (ci := 5) B hK hin_X5_ofKnown_RX5 0 rfl rfl 3 (by decide) (List.mem_of_getElem? (i := 5) rfl) rfl (v := .ref ha) rfl dX5_ofKnown_93 ?_
    refine g_getN (C := RX0) (T := TX0) (N := 6) (ci := 0) B hK hin_X5_ofKnown_RX0 1 rfl rfl 0 (by decide) hN 3 rfl rfl (v := .ref a0) rfl dX5_ofKnown_96 ?_
    refine g_iload_n B dX5_ofKnown_99 1 rfl ?_
    refine g_iald B hK 2 0 rfl rfl k rfl (by omega) (by omega) (v := nI (t k)) ((hAO k (by omega)).1) dX5_ofKnown_100 ?_
    refine g_eqi (y := ks_ok P t mu S k w) (by unfold ks_ok; rw [c7]; rfl) ?_
    exact g_iret_p B hr rfl hlocks () (rfl) (trivial) dX5_ofKnown_101
  · refine g_eqi (y := (1 : Int32)) (by rw [c7]; rfl) ?_
    refine g_tableIn (off := 50) (tgt := 102) B dX5_ofKnown_52 (by decide) (by decide) (by decide) (by decide) ?_
    refine g_aload_n B dX5_ofKnown_102 0 rfl ?_
    refine g_get (C := RX5) (T := TX5) (N := 5) (ci := 5) B hK hin_X5_ofKnown_RX5 0 rfl rfl 3 (by decide) (List.mem_of_getElem? (i := 5) rfl) rfl (v := .ref ha) rfl dX5_ofKnown_103 ?_
    refine g_iload_n B dX5_ofKnown_106 1 rfl ?_
    refine g_callP (g_runV (q0 := 1) (ci := 0) B hK rfl rfl (PM.met (k_isKept l (D := D) (cI := cI) (cL := cL) (cZ := cZ) (cQ := cQ) ha a0 a1 a2 a3 n S k (by first | with_reducible assumption | omega | assumption))) (gPp.pre (av := [.ref ha, .int (nI k)]) (wc := [(ha, .inr (0, [.ref a0, .ref a1, .ref a2, .ref a3, .int (nI n), .long S]))]) hK hN [1] rfl (by decide)) gX5_ofKnown_X0_isKept rfl rfl kd_X0_isKept ⟨by decide, by decide⟩ (st := []) rfl (Nat.le_of_ble_eq_true rfl) dX5_ofKnown_107 ⟨by decide, by decide⟩) (fun u hu => ?_)
    refine g_bif_eq (tgt := 117) B dX5_ofKnown_110 (by decide) (fun c9 => ?_) (fun c9 => ?_)
    · refine g_iconst (v := (0 : Int32)) B dX5_ofKnown_117 (by decide) ?_
      refine g_eqi (y := ks_ok P t mu S k w) (by unfold ks_ok; rw [c7, if_neg (by decide), if_pos rfl, c9]; rfl) ?_
      exact g_iret_p B hr rfl hlocks () (rfl) (trivial) dX5_ofKnown_118
    · refine g_iconst (v := (1 : Int32)) B dX5_ofKnown_113 (by decide) ?_
      refine g_goto (tgt := 118) B dX5_ofKnown_114 (by decide) ?_
      refine g_eqi (y := ks_ok P t mu S k w) (by unfold ks_ok; rw [c7, if_neg (by decide), if_pos rfl, c9]; rfl) ?_
      exact g_iret_p B hr rfl hlocks () (rfl) (trivial) dX5_ofKnown_118
  · refine g_eqi (y := (2 : Int32)) (by rw [c7]; rfl) ?_
    refine g_tableIn (off := 67) (tgt := 119) B dX5_ofKnown_52 (by decide) (by decide) (by decide) (by decide) ?_
    refine g_aload_n B dX5_ofKnown_119 0 rfl ?_
    refine g_get (C := RX5) (T := TX5) (N := 5) (ci := 5) B hK hin_X5_ofKnown_RX5 0 rfl rfl 3 (by decide) (List.mem_of_getElem? (i := 5) rfl) rfl (v := .ref ha) rfl dX5_ofKnown_120 ?_
    refine g_iload_n B dX5_ofKnown_123 1 rfl ?_
    refine g_callP (g_runV (q0 := 1) (ci := 0) B hK rfl rfl (PM.met (k_energyOf l (D := D) (cI := cI) (cL := cL) (cZ := cZ) (cQ := cQ) ha a0 a1 a2 a3 n S F mu k (by first | with_reducible assumption | omega | assumption) (by first | with_reducible assumption | omega | assumption))) (gPp.pre (av := [.ref ha, .int (nI k)]) (wc := [(ha, .inr (0, [.ref a0, .ref a1, .ref a2, .ref a3, .int (nI n), .long S])), (a2, .inl (cI, 41, .inl (fun i => nI (mu i)))), (a3, .inl (cL, 41, .inr (.inl F)))]) hK hN [1, 4, 5] rfl (by decide)) gX5_ofKnown_X0_energyOf rfl rfl kd_X0_energyOf ⟨by decide, by decide⟩ (st := []) rfl (Nat.le_of_ble_eq_true rfl) dX5_ofKnown_124 ⟨by decide, by decide⟩) (fun u hu => ?_)
    refine g_eqi (y := ks_ok P t mu S k w) (by rw [ks_en_cong (by omega) hk hS (ao_F hAO)]; unfold ks_ok; rw [c7]; rfl) ?_
    exact g_iret_p B hr rfl hlocks () (rfl) (trivial) dX5_ofKnown_127
  · refine g_eqi (y := (3 : Int32)) (by rw [c7]; rfl) ?_
    refine g_tableIn (off := 76) (tgt := 128) B dX5_ofKnown_52 (by decide) (by decide) (by decide) (by decide) ?_
    refine g_aload_n B dX5_ofKnown_128 0 rfl ?_
    refine g_get (C := RX5) (T := TX5) (N := 5) (ci := 5) B hK hin_X5_ofKnown_RX5 0 rfl rfl 3 (by decide) (List.mem_of_getElem? (i := 5) rfl) rfl (v := .ref ha) rfl dX5_ofKnown_129 ?_
    refine g_getN (C := RX0) (T := TX0) (N := 6) (ci := 0) B hK hin_X5_ofKnown_RX0 1 rfl rfl 2 (by decide) hN 2 rfl rfl (v := .ref a2) rfl dX5_ofKnown_132 ?_
    refine g_iload_n B dX5_ofKnown_135 1 rfl ?_
    refine g_iald B hK 4 0 rfl rfl k rfl (by omega) (by omega) (v := nI (mu k)) rfl dX5_ofKnown_136 ?_
    refine g_eqi (y := ks_ok P t mu S k w) (by unfold ks_ok; rw [c7]; rfl) ?_
    exact g_iret_p B hr rfl hlocks () (rfl) (trivial) dX5_ofKnown_137
  · refine g_eqi (y := (4 : Int32)) (by rw [c7]; rfl) ?_
    refine g_tableIn (off := 86) (tgt := 138) B dX5_ofKnown_52 (by decide) (by decide) (by decide) (by decide) ?_
    refine g_aload_n B dX5_ofKnown_138 0 rfl ?_
    refine g_get (C := RX5) (T := TX5) (N := 5) (ci := 5) B hK hin_X5_ofKnown_RX5 0 rfl rfl 3 (by decide) (List.mem_of_getElem? (i := 5) rfl) rfl (v := .ref ha) rfl dX5_ofKnown_139 ?_
    refine g_getN (C := RX0) (T := TX0) (N := 6) (ci := 0) B hK hin_X5_ofKnown_RX0 1 rfl rfl 1 (by decide) hN 5 rfl rfl (v := .ref a1) rfl dX5_ofKnown_142 ?_
    refine g_iload_n B dX5_ofKnown_145 1 rfl ?_
    refine g_iald B hK 3 0 rfl rfl k rfl (by omega) (by omega) (v := nI (ks_rs P (t k))) ((hAO k (by omega)).2.2.1) dX5_ofKnown_146 ?_
    refine g_eqi (y := ks_ok P t mu S k w) (by unfold ks_ok; rw [c7]; rfl) ?_
    exact g_iret_p B hr rfl hlocks () (rfl) (trivial) dX5_ofKnown_147
  · refine g_eqi (y := (5 : Int32)) (by rw [c7]; rfl) ?_
    refine g_tableIn (off := 96) (tgt := 148) B dX5_ofKnown_52 (by decide) (by decide) (by decide) (by decide) ?_
    refine g_aload_n B dX5_ofKnown_148 0 rfl ?_
    refine g_get (C := RX5) (T := TX5) (N := 5) (ci := 5) B hK hin_X5_ofKnown_RX5 0 rfl rfl 3 (by decide) (List.mem_of_getElem? (i := 5) rfl) rfl (v := .ref ha) rfl dX5_ofKnown_149 ?_
    refine g_getN (C := RX0) (T := TX0) (N := 6) (ci := 0) B hK hin_X5_ofKnown_RX0 1 rfl rfl 3 (by decide) hN 6 rfl rfl (v := .ref a3) rfl dX5_ofKnown_152 ?_
    refine g_iload_n B dX5_ofKnown_155 1 rfl ?_
    refine g_lald B hK 5 1 rfl rfl k rfl (by omega) (by omega) (v := (ks_fd P (t k))) ((hAO k (by omega)).2.2.2) dX5_ofKnown_156 ?_
    refine g_callP (g_runS B (PM.met (k_edgesIn l (D := D) (cI := cI) (cL := cL) (cZ := cZ) (cQ := cQ) (ks_fd P (t k)) )) (gPp.pre (av := [.long (ks_fd P (t k))]) (wc := []) hK hN [] rfl (by decide)) gX5_ofKnown_X5_edgesIn rfl kd_X5_edgesIn ⟨by decide, by decide⟩ (st := []) rfl (Nat.le_of_ble_eq_true rfl) dX5_ofKnown_157 ⟨by decide, by decide⟩) (fun u hu => ?_)
    refine g_eqi (y := ks_ok P t mu S k w) (by unfold ks_ok; rw [c7]; rfl) ?_
    exact g_iret_p B hr rfl hlocks () (rfl) (trivial) dX5_ofKnown_160
  · refine g_eqi (y := (6 : Int32)) (by rw [c7]; rfl) ?_
    refine g_tableOut (tgt := 161) B dX5_ofKnown_52 (by decide) (by decide) ?_
    refine g_aload_n B dX5_ofKnown_161 0 rfl ?_
    refine g_get (C := RX5) (T := TX5) (N := 5) (ci := 5) B hK hin_X5_ofKnown_RX5 0 rfl rfl 3 (by decide) (List.mem_of_getElem? (i := 5) rfl) rfl (v := .ref ha) rfl dX5_ofKnown_162 ?_
    refine g_iload_n B dX5_ofKnown_165 1 rfl ?_
    refine g_aload_n B dX5_ofKnown_166 0 rfl ?_
    refine g_get (C := RX5) (T := TX5) (N := 5) (ci := 5) B hK hin_X5_ofKnown_RX5 0 rfl rfl 3 (by decide) (List.mem_of_getElem? (i := 5) rfl) rfl (v := .ref ha) rfl dX5_ofKnown_167 ?_
    refine g_getN (C := RX0) (T := TX0) (N := 6) (ci := 0) B hK hin_X5_ofKnown_RX0 1 rfl rfl 5 (by decide) hN 7 rfl rfl (v := .long S) rfl dX5_ofKnown_170 ?_
    refine g_callP (g_runV (q0 := 1) (ci := 0) B hK rfl rfl (PM.met (k_foundAloneBy l (D := D) (cI := cI) (cL := cL) (cZ := cZ) (cQ := cQ) ha a0 a1 a2 a3 n S F S k (by first | with_reducible assumption | omega | assumption))) (gPp.pre (av := [.ref ha, .int (nI k), .long S]) (wc := [(ha, .inr (0, [.ref a0, .ref a1, .ref a2, .ref a3, .int (nI n), .long S])), (a3, .inl (cL, 41, .inr (.inl F)))]) hK hN [1, 5] rfl (by decide)) gX5_ofKnown_X0_foundAloneBy rfl rfl kd_X0_foundAloneBy ⟨by decide, by decide⟩ (st := []) rfl (Nat.le_of_ble_eq_true rfl) dX5_ofKnown_173 ⟨by decide, by decide⟩) (fun u hu => ?_)
    refine g_callP (g_runS B (PM.met (k_edgesIn l (D := D) (cI := cI) (cL := cL) (cZ := cZ) (cQ := cQ) (ks_al F k S) )) (gPp.pre (av := [.long (ks_al F k S)]) (wc := []) hK hN [] rfl (by decide)) gX5_ofKnown_X5_edgesIn rfl kd_X5_edgesIn ⟨by decide, by decide⟩ (st := []) rfl (Nat.le_of_ble_eq_true rfl) dX5_ofKnown_176 ⟨by decide, by decide⟩) (fun u hu => ?_)
    refine g_eqi (y := ks_ok P t mu S k w) (by rw [ks_al_cong hS (ao_F hAO) (ao_F hAO k hk) (by omega)]; unfold ks_ok; rw [c7]; rfl) ?_
    exact g_iret_p B hr rfl hlocks () (rfl) (trivial) dX5_ofKnown_179

