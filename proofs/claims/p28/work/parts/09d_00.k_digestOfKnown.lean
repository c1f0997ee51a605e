set_option maxHeartbeats 400000 in
set_option maxRecDepth 100000 in
theorem k_digestOfKnown (l : Launch) {D : va_G} {cI cL cZ cQ : ClassId} (hb : Nat) (hp : Nat) (ht : Nat) (hg : Nat) (ha : Nat) (hq : Nat) (P : Pg) (a0 : Nat) (a1 : Nat) (a2 : Nat) (a3 : Nat) (n : Nat) (S : Int64) (f0 : Nat → Int32) (f1 : Nat → Int32) (F : Nat → Int64) (mu : Nat → Nat) (t : Nat → Nat) (d0 : Int64) (hn : n ≤ 40) (hAO : ks_AO P t n f0 f1 F) (hS : ks_SK n S) (hmu : ∀ i, mu i < 1000) : PM l yX5_digestOfKnown wsX5_digestOfKnown ({ frames := 5, cells := 0, slots := 0, locals := 116 } : Room) D (gTys cI cL cZ cQ) [.ref hb, .long d0] [(hb, .inr (5, [.ref hp, .ref ht, .ref hg, .ref ha, .ref hq])), (ha, .inr (0, [.ref a0, .ref a1, .ref a2, .ref a3, .int (nI n), .long S])), (a0, .inl (cI, 41, .inl f0)), (a1, .inl (cI, 41, .inl f1)), (a2, .inl (cI, 41, .inl (fun i => nI (mu i)))), (a3, .inl (cL, 41, .inr (.inl F)))] (fun (_ : Unit) => True) (fun (_ : Unit) => some (.long (ks_fo (fun k d => ks_fo (fun w d => ks_d1 d (ks_ok P t mu S k w)) d 7) d0 n))) := by
  refine PM.ofG cX5_digestOfKnown 7 (some .long) (by decide +kernel) rfl (Nat.le_of_ble_eq_true rfl) ?_
  intro p e s m below meth c B hr hlocks hname hK hN
  refine g_lload_n B dX5_digestOfKnown_0 1 rfl ?_
  refine g_lstore_n (lv' := [(0, .ref hb), (1, .long d0), (3, .long d0)]) B dX5_digestOfKnown_1 rfl (by decide) [1, 2, 0] rfl ?_
  refine g_iconst (v := (0 : Int32)) B dX5_digestOfKnown_2 (by decide) ?_
  refine g_istore (lv' := [(0, .ref hb), (1, .long d0), (3, .long d0), (5, .int (0 : Int32))]) B dX5_digestOfKnown_3 (by decide) [1, 2, 3, 0] rfl ?_
  refine g_loop (σ := Nat) (fun x9 => x9 ≤ n) (fun x9 => 41 - x9) (fun x9 => 0) (fun x9 => 0) (fun x9 => [(hb, .inr (5, [.ref hp, .ref ht, .ref hg, .ref ha, .ref hq])), (ha, .inr (0, [.ref a0, .ref a1, .ref a2, .ref a3, .int (nI n), .long S])), (a0, .inl (cI, 41, .inl f0)), (a1, .inl (cI, 41, .inl f1)), (a2, .inl (cI, 41, .inl (fun i => nI (mu i)))), (a3, .inl (cL, 41, .inr (.inl F)))]) (fun x9 => [(0, .ref hb), (1, .long d0), (3, .long (ks_fo (fun x9 d => ks_fo (fun w d => ks_d1 d (ks_ok P t mu S x9 w)) d 7) d0 x9)), (5, .int (nI x9))]) (fun x9 hI ih5 => ?_) 0 (by (try dsimp only); omega) rfl rfl rfl rfl
  obtain ⟨k, e9⟩ : ∃ z, z = x9 := ⟨_, rfl⟩; subst e9
  try dsimp only at hI ih5 ⊢
  refine g_iload B dX5_digestOfKnown_5 3 rfl ?_
  refine g_aload_n B dX5_digestOfKnown_7 0 rfl ?_
  refine g_get (C := RX5) (T := TX5) (N := 5) (ci := 5) B hK hin_X5_digestOfKnown_RX5 0 rfl rfl 3 (by decide) (List.mem_of_getElem? (i := 1) rfl) rfl (v := .ref ha) rfl dX5_digestOfKnown_8 ?_
  refine g_getN (C := RX0) (T := TX0) (N := 6) (ci := 0) B hK hin_X5_digestOfKnown_RX0 1 rfl rfl 4 (by decide) hN 4 rfl rfl (v := .int (nI n)) rfl dX5_digestOfKnown_11 ?_
  refine g_ncmp_ge (tgt := 62) B k n rfl rfl (by omega) (by omega) dX5_digestOfKnown_14 (by decide) (fun c2 => ?_) (fun c2 => ?_)
  · have hkn : k = n := by omega
    refine g_lload_n B dX5_digestOfKnown_62 2 rfl ?_
    exact g_lret_p B hr hlocks () (by rw [hkn]) (trivial) dX5_digestOfKnown_63
  · refine g_iload B dX5_digestOfKnown_17 3 rfl ?_
    refine g_bipush (v := (40 : Int32)) B dX5_digestOfKnown_19 (by decide) ?_
    refine g_ncmp_ge (tgt := 62) B k 40 rfl rfl (by omega) (by omega) dX5_digestOfKnown_21 (by decide) (fun c4 => ?_) (fun c4 => ?_)
    · exfalso; omega
    refine g_iconst (v := (0 : Int32)) B dX5_digestOfKnown_24 (by decide) ?_
    refine g_istore (lv' := [(0, .ref hb), (1, .long d0), (3, .long (ks_fo (fun k d => ks_fo (fun w d => ks_d1 d (ks_ok P t mu S k w)) d 7) d0 k)), (5, .int (nI k)), (6, .int (0 : Int32))]) B dX5_digestOfKnown_25 (by decide) [1, 2, 3, 4, 0] rfl ?_
    refine g_loop (σ := Nat) (fun x9 => x9 ≤ 7) (fun x9 => 8 - x9) (fun x9 => 0) (fun x9 => 0) (fun x9 => [(hb, .inr (5, [.ref hp, .ref ht, .ref hg, .ref ha, .ref hq])), (ha, .inr (0, [.ref a0, .ref a1, .ref a2, .ref a3, .int (nI n), .long S])), (a0, .inl (cI, 41, .inl f0)), (a1, .inl (cI, 41, .inl f1)), (a2, .inl (cI, 41, .inl (fun i => nI (mu i)))), (a3, .inl (cL, 41, .inr (.inl F)))]) (fun x9 => [(0, .ref hb), (1, .long d0), (3, .long (ks_fo (fun x9 d => ks_d1 d (ks_ok P t mu S k x9)) (ks_fo (fun k d => ks_fo (fun x9 d => ks_d1 d (ks_ok P t mu S k x9)) d 7) d0 k) x9)), (5, .int (nI k)), (6, .int (nI x9))]) (fun x9 hI ih27 => ?_) 0 (by (try dsimp only); omega) rfl rfl rfl rfl
    obtain ⟨w, e9⟩ : ∃ z, z = x9 := ⟨_, rfl⟩; subst e9
    try dsimp only at hI ih27 ⊢
    refine g_iload B dX5_digestOfKnown_27 4 rfl ?_
    refine g_bipush (v := (6 : Int32)) B dX5_digestOfKnown_29 (by decide) ?_
    refine g_ncmp_gt (tgt := 56) B w 6 rfl rfl (by omega) (by omega) dX5_digestOfKnown_31 (by decide) (fun c6 => ?_) (fun c6 => ?_)
    · obtain rfl : w = 7 := by omega
      refine g_eqlv (lv2 := [(0, .ref hb), (1, .long d0), (3, .long (ks_fo (fun k d => ks_fo (fun w d => ks_d1 d (ks_ok P t mu S k w)) d 7) d0 (k + 1))), (5, .int (nI k)), (6, .int (nI 7))]) rfl ?_
      refine g_iinc (lv' := [(0, .ref hb), (1, .long d0), (3, .long (ks_fo (fun k d => ks_fo (fun w d => ks_d1 d (ks_ok P t mu S k w)) d 7) d0 (k + 1))), (5, .int (nI (k + 1))), (6, .int (nI 7))]) B dX5_digestOfKnown_56 3 rfl (nI_1 k) (by decide) [1, 2, 3, 0, 4] rfl ?_
      refine g_goto (tgt := 5) B dX5_digestOfKnown_59 (by decide) ?_
      exact g_pick [0, 1, 2, 3] rfl (ih5 (k + 1) (by (try dsimp only); omega) (by (try dsimp only); omega))
    · refine g_lload_n B dX5_digestOfKnown_34 2 rfl ?_
      refine g_ldc2 (v := (31 : Int64)) B dX5_digestOfKnown_35 (List.mem_of_getElem? (i := 2) rfl) ?_
      refine g_lmul (v := ((ks_fo (fun w d => ks_d1 d (ks_ok P t mu S k w)) (ks_fo (fun k d => ks_fo (fun w d => ks_d1 d (ks_ok P t mu S k w)) d 7) d0 k) w) * (31 : Int64))) B dX5_digestOfKnown_38 (rfl) ?_
      refine g_aload_n B dX5_digestOfKnown_39 0 rfl ?_
      refine g_iload B dX5_digestOfKnown_40 3 rfl ?_
      refine g_iload B dX5_digestOfKnown_42 4 rfl ?_
      refine g_callP (g_runV (q0 := 0) (ci := 5) B hK rfl rfl (PM.met (k_ofKnown l (D := D) (cI := cI) (cL := cL) (cZ := cZ) (cQ := cQ) hb hp ht hg ha hq P a0 a1 a2 a3 n S f0 f1 F mu t k w (by first | with_reducible assumption | omega | assumption) (by first | with_reducible assumption | omega | assumption) (by first | with_reducible assumption | omega | assumption) (by first | with_reducible assumption | omega | assumption) (by first | with_reducible assumption | omega | assumption) (by first | with_reducible assumption | omega | assumption))) (gPp.pre (av := [.ref hb, .int (nI k), .int (nI w)]) (wc := [(hb, .inr (5, [.ref hp, .ref ht, .ref hg, .ref ha, .ref hq])), (ha, .inr (0, [.ref a0, .ref a1, .ref a2, .ref a3, .int (nI n), .long S])), (a0, .inl (cI, 41, .inl f0)), (a1, .inl (cI, 41, .inl f1)), (a2, .inl (cI, 41, .inl (fun i => nI (mu i)))), (a3, .inl (cL, 41, .inr (.inl F)))]) hK hN [0, 1, 2, 3, 4, 5] rfl (by decide)) gX5_digestOfKnown_X5_ofKnown rfl rfl kd_X5_ofKnown ⟨by decide, by decide⟩ (st := [.long ((ks_fo (fun w d => ks_d1 d (ks_ok P t mu S k w)) (ks_fo (fun k d => ks_fo (fun w d => ks_d1 d (ks_ok P t mu S k w)) d 7) d0 k) w) * (31 : Int64))]) rfl (Nat.le_of_ble_eq_true rfl) dX5_digestOfKnown_44 ⟨by decide, by decide⟩) (fun u hu => ?_)
      refine g_i2l (v := (ks_ok P t mu S k w).toInt64) B dX5_digestOfKnown_47 rfl ?_
      refine g_ladd (v := (((ks_fo (fun w d => ks_d1 d (ks_ok P t mu S k w)) (ks_fo (fun k d => ks_fo (fun w d => ks_d1 d (ks_ok P t mu S k w)) d 7) d0 k) w) * (31 : Int64)) + (ks_ok P t mu S k w).toInt64)) B dX5_digestOfKnown_48 (rfl) ?_
      refine g_lstore_n (lv' := [(0, .ref hb), (1, .long d0), (3, .long (((ks_fo (fun w d => ks_d1 d (ks_ok P t mu S k w)) (ks_fo (fun k d => ks_fo (fun w d => ks_d1 d (ks_ok P t mu S k w)) d 7) d0 k) w) * (31 : Int64)) + (ks_ok P t mu S k w).toInt64)), (5, .int (nI k)), (6, .int (nI w))]) B dX5_digestOfKnown_49 rfl (by decide) [1, 2, 0, 3, 4] rfl ?_
      refine g_iinc (lv' := [(0, .ref hb), (1, .long d0), (3, .long (((ks_fo (fun w d => ks_d1 d (ks_ok P t mu S k w)) (ks_fo (fun k d => ks_fo (fun w d => ks_d1 d (ks_ok P t mu S k w)) d 7) d0 k) w) * (31 : Int64)) + (ks_ok P t mu S k w).toInt64)), (5, .int (nI k)), (6, .int (nI (w + 1)))]) B dX5_digestOfKnown_50 4 rfl (nI_1 w) (by decide) [1, 2, 3, 4, 0] rfl ?_
      refine g_goto (tgt := 27) B dX5_digestOfKnown_53 (by decide) ?_
      exact ih27 (w + 1) (by (try dsimp only); omega) (by (try dsimp only); omega)

