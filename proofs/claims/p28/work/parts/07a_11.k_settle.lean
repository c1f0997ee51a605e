set_option maxHeartbeats 400000 in
set_option maxRecDepth 100000 in
theorem k_settle (l : Launch) {D : va_G} {cI cL cZ cQ : ClassId} (ha : Nat) (a0 : Nat) (a1 : Nat) (a2 : Nat) (a3 : Nat) (n : Nat) (S : Int64) (F : Nat → Int64) (hn : n ≤ 40) : WM l yX0_settle wsX0_settle ({ frames := 4, cells := 0, slots := 0, locals := 95 } : Room) D (gTys cI cL cZ cQ) [.ref ha] [(ha, .inr (0, [.ref a0, .ref a1, .ref a2, .ref a3, .int (nI n), .long S])), (a3, .inl (cL, 41, .inr (.inl F)))] (fun (_ : Unit) => True) (fun (_ : Unit) => none) (fun (_ : Unit) => [(ha, .inr (0, [.ref a0, .ref a1, .ref a2, .ref a3, .int (nI n), .long (ks_ch F n S)])), (a3, .inl (cL, 41, .inr (.inl F)))]) := by
  refine WM.ofG cX0_settle 2 none (by decide +kernel) rfl (Nat.le_of_ble_eq_true rfl) ?_
  intro p e s m below meth c A hA B hr hlocks hname hK hN
  refine g_iconst (v := (0 : Int32)) B dX0_settle_0 (by decide) ?_
  refine g_istore_n (lv' := [(0, .ref ha), (1, .int (0 : Int32))]) B dX0_settle_1 rfl (by decide) [1, 0] rfl ?_
  refine g_loop (σ := Nat) (fun x9 => x9 ≤ n) (fun x9 => 41 - x9) (fun x9 => 0) (fun x9 => 0) (fun x9 => [(ha, .inr (0, [.ref a0, .ref a1, .ref a2, .ref a3, .int (nI n), .long (ks_sS F S x9)])), (a3, .inl (cL, 41, .inr (.inl F)))]) (fun x9 => [(0, .ref ha), (1, .int (nI x9))]) (fun x9 hI ih2 => ?_) 0 (by (try dsimp only); omega) rfl rfl rfl rfl
  obtain ⟨k, e9⟩ : ∃ z, z = x9 := ⟨_, rfl⟩; subst e9
  try dsimp only at hI ih2 ⊢
  refine g_iload_n B dX0_settle_2 1 rfl ?_
  refine g_aload_n B dX0_settle_3 0 rfl ?_
  refine g_get (C := RX0) (T := TX0) (N := 6) (ci := 0) B hK hin_X0_settle_RX0 0 rfl rfl 4 (by decide) (List.mem_of_getElem? (i := 1) rfl) rfl (v := .int (nI n)) rfl dX0_settle_4 ?_
  refine g_ncmp_ge (tgt := 57) B k n rfl rfl (by omega) (by omega) dX0_settle_7 (by decide) (fun c2 => ?_) (fun c2 => ?_)
  · have hkn : k = n := by omega
    refine g_eqw (w2 := [(ha, .inr (0, [.ref a0, .ref a1, .ref a2, .ref a3, .int (nI n), .long (ks_sS F S n)])), (a3, .inl (cL, 41, .inr (.inl F)))]) (by rw [hkn]) ?_
    refine g_aload_n B dX0_settle_57 0 rfl ?_
    refine g_aload_n B dX0_settle_58 0 rfl ?_
    refine g_aload_n B dX0_settle_59 0 rfl ?_
    refine g_get (C := RX0) (T := TX0) (N := 6) (ci := 0) B hK hin_X0_settle_RX0 0 rfl rfl 5 (by decide) (List.mem_of_getElem? (i := 2) rfl) rfl (v := .long (ks_sS F S n)) rfl dX0_settle_60 ?_
    refine g_callP (g_runV (q0 := 0) (ci := 0) B hK rfl rfl (PM.met (k_neededOf l (D := D) (cI := cI) (cL := cL) (cZ := cZ) (cQ := cQ) ha a0 a1 a2 a3 n (ks_sS F S n) F (ks_sS F S n) )) (gPp.pre (av := [.ref ha, .long (ks_sS F S n)]) (wc := [(ha, .inr (0, [.ref a0, .ref a1, .ref a2, .ref a3, .int (nI n), .long (ks_sS F S n)])), (a3, .inl (cL, 41, .inr (.inl F)))]) hK hN [0, 1] rfl (by decide)) gX0_settle_X0_neededOf rfl rfl kd_X0_neededOf ⟨by decide, by decide⟩ (st := [.ref ha]) rfl (Nat.le_of_ble_eq_true rfl) dX0_settle_63 ⟨by decide, by decide⟩) (fun u hu => ?_)
    refine g_put (C := RX0) (T := TX0) (N := 6) (ci := 0) B hK hin_X0_settle_RX0 0 rfl rfl 5 (by decide) tyX0 tyX0_ok nmX0 (List.mem_of_getElem? (i := 2) rfl) rfl rfl (ty := .long) (v := .long (ks_nS F (ks_sS F S n) 41)) (by decide +kernel) rfl rfl (Nat.le_of_ble_eq_true rfl) (w2 := [(ha, .inr (0, [.ref a0, .ref a1, .ref a2, .ref a3, .int (nI n), .long (ks_nS F (ks_sS F S n) 41)])), (a3, .inl (cL, 41, .inr (.inl F)))]) rfl (fun _ h => h) dX0_settle_66 ?_
    exact g_vret_w B hr hlocks () (rfl) (trivial) [0, 1] (by decide) rfl dX0_settle_69
  · refine g_iload_n B dX0_settle_10 1 rfl ?_
    refine g_bipush (v := (40 : Int32)) B dX0_settle_11 (by decide) ?_
    refine g_ncmp_ge (tgt := 57) B k 40 rfl rfl (by omega) (by omega) dX0_settle_13 (by decide) (fun c5 => ?_) (fun c5 => ?_)
    · exfalso; omega
    refine g_aload_n B dX0_settle_16 0 rfl ?_
    refine g_iload_n B dX0_settle_17 1 rfl ?_
    refine g_callP (g_runV (q0 := 0) (ci := 0) B hK rfl rfl (PM.met (k_isKept l (D := D) (cI := cI) (cL := cL) (cZ := cZ) (cQ := cQ) ha a0 a1 a2 a3 n (ks_sS F S k) k (by first | with_reducible assumption | omega | assumption))) (gPp.pre (av := [.ref ha, .int (nI k)]) (wc := [(ha, .inr (0, [.ref a0, .ref a1, .ref a2, .ref a3, .int (nI n), .long (ks_sS F S k)]))]) hK hN [0] rfl (by decide)) gX0_settle_X0_isKept rfl rfl kd_X0_isKept ⟨by decide, by decide⟩ (st := []) rfl (Nat.le_of_ble_eq_true rfl) dX0_settle_18 ⟨by decide, by decide⟩) (fun u hu => ?_)
    refine g_bif_ne (tgt := 51) B dX0_settle_21 (by decide) (fun c7 => ?_) (fun c7 => ?_)
    · refine g_eqw (w2 := [(ha, .inr (0, [.ref a0, .ref a1, .ref a2, .ref a3, .int (nI n), .long (ks_sS F S (k + 1))])), (a3, .inl (cL, 41, .inr (.inl F)))]) (by rw [show ks_sS F S (k + 1) = (if !hasB (ks_sS F S k) k && !decide (ks_al F k (ks_sS F S k) = 0) then ks_sS F S k ||| lShl 1 (nI k) else ks_sS F S k) from rfl, c7]; rfl) ?_
      refine g_iinc (lv' := [(0, .ref ha), (1, .int (nI (k + 1)))]) B dX0_settle_51 1 rfl (nI_1 k) (by decide) [1, 0] rfl ?_
      refine g_goto (tgt := 2) B dX0_settle_54 (by decide) ?_
      exact ih2 (k + 1) (by (try dsimp only); omega) (by (try dsimp only); omega)
    · refine g_aload_n B dX0_settle_24 0 rfl ?_
      refine g_iload_n B dX0_settle_25 1 rfl ?_
      refine g_aload_n B dX0_settle_26 0 rfl ?_
      refine g_get (C := RX0) (T := TX0) (N := 6) (ci := 0) B hK hin_X0_settle_RX0 0 rfl rfl 5 (by decide) (List.mem_of_getElem? (i := 2) rfl) rfl (v := .long (ks_sS F S k)) rfl dX0_settle_27 ?_
      refine g_callP (g_runV (q0 := 0) (ci := 0) B hK rfl rfl (PM.met (k_foundAloneBy l (D := D) (cI := cI) (cL := cL) (cZ := cZ) (cQ := cQ) ha a0 a1 a2 a3 n (ks_sS F S k) F (ks_sS F S k) k (by first | with_reducible assumption | omega | assumption))) (gPp.pre (av := [.ref ha, .int (nI k), .long (ks_sS F S k)]) (wc := [(ha, .inr (0, [.ref a0, .ref a1, .ref a2, .ref a3, .int (nI n), .long (ks_sS F S k)])), (a3, .inl (cL, 41, .inr (.inl F)))]) hK hN [0, 1] rfl (by decide)) gX0_settle_X0_foundAloneBy rfl rfl kd_X0_foundAloneBy ⟨by decide, by decide⟩ (st := []) rfl (Nat.le_of_ble_eq_true rfl) dX0_settle_30 ⟨by decide, by decide⟩) (fun u hu => ?_)
      refine g_lconst (v := (0 : Int64)) B dX0_settle_33 rfl ?_
      refine g_lcmp (v := (lg_cmp (ks_al F k (ks_sS F S k)) (0 : Int64))) B dX0_settle_34 rfl ?_
      refine g_lif_eq (tgt := 51) B dX0_settle_35 (by decide) (fun c9 => ?_) (fun c9 => ?_)
      · refine g_eqw (w2 := [(ha, .inr (0, [.ref a0, .ref a1, .ref a2, .ref a3, .int (nI n), .long (ks_sS F S (k + 1))])), (a3, .inl (cL, 41, .inr (.inl F)))]) (by rw [show ks_sS F S (k + 1) = (if !hasB (ks_sS F S k) k && !decide (ks_al F k (ks_sS F S k) = 0) then ks_sS F S k ||| lShl 1 (nI k) else ks_sS F S k) from rfl, c7, decide_eq_true c9]; rfl) ?_
        refine g_iinc (lv' := [(0, .ref ha), (1, .int (nI (k + 1)))]) B dX0_settle_51 1 rfl (nI_1 k) (by decide) [1, 0] rfl ?_
        refine g_goto (tgt := 2) B dX0_settle_54 (by decide) ?_
        exact ih2 (k + 1) (by (try dsimp only); omega) (by (try dsimp only); omega)
      · refine g_aload_n B dX0_settle_38 0 rfl ?_
        refine g_dup B dX0_settle_39 rfl ?_
        refine g_get (C := RX0) (T := TX0) (N := 6) (ci := 0) B hK hin_X0_settle_RX0 0 rfl rfl 5 (by decide) (List.mem_of_getElem? (i := 2) rfl) rfl (v := .long (ks_sS F S k)) rfl dX0_settle_40 ?_
        refine g_iload_n B dX0_settle_43 1 rfl ?_
        refine g_callP (g_runSN B hN (PM.met (k_bit l (D := D) (cI := cI) (cL := cL) (cZ := cZ) (cQ := cQ) k (by first | with_reducible assumption | omega | assumption))) (gPp.pre (av := [.int (nI k)]) (wc := []) hK hN [] rfl (by decide)) gX0_settle_X5_bit_n37 (List.mem_of_getElem? (i := 9) rfl) (List.mem_of_getElem? (i := 17) rfl) 4 rfl rfl kd_X5_bit ⟨by decide, by decide⟩ (st := [.long (ks_sS F S k), .ref ha]) rfl (Nat.le_of_ble_eq_true rfl) dX0_settle_44 ⟨by decide, by decide⟩) (fun u hu => ?_)
        refine g_lor (v := ((ks_sS F S k) ||| (lShl 1 (nI k)))) B dX0_settle_47 (rfl) ?_
        refine g_put (C := RX0) (T := TX0) (N := 6) (ci := 0) B hK hin_X0_settle_RX0 0 rfl rfl 5 (by decide) tyX0 tyX0_ok nmX0 (List.mem_of_getElem? (i := 2) rfl) rfl rfl (ty := .long) (v := .long ((ks_sS F S k) ||| (lShl 1 (nI k)))) (by decide +kernel) rfl rfl (Nat.le_of_ble_eq_true rfl) (w2 := [(ha, .inr (0, [.ref a0, .ref a1, .ref a2, .ref a3, .int (nI n), .long ((ks_sS F S k) ||| (lShl 1 (nI k)))])), (a3, .inl (cL, 41, .inr (.inl F)))]) rfl (fun _ h => h) dX0_settle_48 ?_
        refine g_eqw (w2 := [(ha, .inr (0, [.ref a0, .ref a1, .ref a2, .ref a3, .int (nI n), .long (ks_sS F S (k + 1))])), (a3, .inl (cL, 41, .inr (.inl F)))]) (by rw [show ks_sS F S (k + 1) = (if !hasB (ks_sS F S k) k && !decide (ks_al F k (ks_sS F S k) = 0) then ks_sS F S k ||| lShl 1 (nI k) else ks_sS F S k) from rfl, c7, decide_eq_false c9]; rfl) ?_
        refine g_iinc (lv' := [(0, .ref ha), (1, .int (nI (k + 1)))]) B dX0_settle_51 1 rfl (nI_1 k) (by decide) [1, 0] rfl ?_
        refine g_goto (tgt := 2) B dX0_settle_54 (by decide) ?_
        exact ih2 (k + 1) (by (try dsimp only); omega) (by (try dsimp only); omega)

