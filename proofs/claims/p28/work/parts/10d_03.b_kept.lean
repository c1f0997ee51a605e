set_option maxHeartbeats 400000 in
set_option maxRecDepth 100000 in
theorem b_kept (l : Launch) {D : va_G} {cI cL cZ cQ : ClassId} (gb : Nat) (gn : Nat) (gv : Nat) (gk : Nat) (gr : Nat) (hb : Nat) (b : Nat) (dw : Nat) (sd : Nat) (na : Nat → Nat) (wa : Nat → Nat) (ra : Nat → Nat) (ka : Nat → Nat) (P : Pg) (W : Wg) (Q : Rg) (rc : Nat) (t : Nat → Nat) (n : Nat) (S : Int64) (mu : Nat → Nat) (hn16 : n ≤ 16) (hS : ks_SK n S) : PM l yX6_kept wsX6_kept ({ frames := 0, cells := 0, slots := 0, locals := 0 } : Room) D (gTys cI cL cZ cQ) [.ref gb] ([(gb, .inr (6, [.ref hb, .ref b, .int (nI dw), .ref gn, .ref gv, .int (nI sd), .ref gk, .ref gr])), (gn, .inl (cQ, 12, .inr (.inr (.inr (.inr (fun i => some (na i))))))), (gk, .inl (cQ, n, .inr (.inr (.inr (.inr (fun i => some (ka i)))))))] ++ (tl_T cI 12 na (ks_nr P) 4 wa (ks_wr W) rc ra (ks_rr Q) n ka (ks_kn t S mu))) (fun (_ : Unit) => True) (fun (_ : Unit) => some (.int (nI (ks_bc S)))) := by
  refine PM.ofG cX6_kept 6 (some .int) (by decide +kernel) rfl (Nat.le_of_ble_eq_true rfl) ?_
  intro p e s m below meth c B hr hlocks hname hK hN
  refine g_iconst (v := (0 : Int32)) B dX6_kept_0 (by decide) ?_
  refine g_istore_n (lv' := [(0, .ref gb), (1, .int (0 : Int32))]) B dX6_kept_1 rfl (by decide) [1, 0] rfl ?_
  refine g_aload_n B dX6_kept_2 0 rfl ?_
  refine g_get (C := RX6) (T := TX6) (N := 8) (ci := 6) B hK hin_X6_kept_RX6 0 rfl rfl 6 (by decide) (List.mem_of_getElem? (i := 1) rfl) rfl (v := .ref gk) rfl dX6_kept_3 ?_
  refine g_astore_n (lv' := [(0, .ref gb), (1, .int (0 : Int32)), (2, .ref gk)]) B dX6_kept_6 rfl (by decide) [1, 2, 0] rfl ?_
  refine g_aload_n B dX6_kept_7 2 rfl ?_
  refine g_alen (v := nI n) B hK 2 3 rfl rfl rfl dX6_kept_8 ?_
  refine g_istore_n (lv' := [(0, .ref gb), (1, .int (0 : Int32)), (2, .ref gk), (3, .int (nI n))]) B dX6_kept_9 rfl (by decide) [1, 2, 3, 0] rfl ?_
  refine g_iconst (v := (0 : Int32)) B dX6_kept_10 (by decide) ?_
  refine g_istore (lv' := [(0, .ref gb), (1, .int (0 : Int32)), (2, .ref gk), (3, .int (nI n)), (4, .int (0 : Int32))]) B dX6_kept_11 (by decide) [1, 2, 3, 4, 0] rfl ?_
  refine g_loop (σ := Nat) (fun x9 => x9 ≤ n) (fun x9 => 17 - x9) (fun x9 => 0) (fun x9 => 0) (fun x9 => ([(gb, .inr (6, [.ref hb, .ref b, .int (nI dw), .ref gn, .ref gv, .int (nI sd), .ref gk, .ref gr])), (gn, .inl (cQ, 12, .inr (.inr (.inr (.inr (fun i => some (na i))))))), (gk, .inl (cQ, n, .inr (.inr (.inr (.inr (fun i => some (ka i)))))))] ++ (tl_T cI 12 na (ks_nr P) 4 wa (ks_wr W) rc ra (ks_rr Q) n ka (ks_kn t S mu)))) (fun x9 => [(0, .ref gb), (1, .int (nI (fb_ct (fun j => hasB S j) x9))), (2, .ref gk), (3, .int (nI n)), (4, .int (nI x9))]) (fun x9 hI ih13 => ?_) 0 (by (try dsimp only); omega) rfl rfl rfl rfl
  obtain ⟨k, e9⟩ : ∃ z, z = x9 := ⟨_, rfl⟩; subst e9
  try dsimp only at hI ih13 ⊢
  have v1 := fb_ct_le (fun j => hasB S j) k
  refine g_iload B dX6_kept_13 4 rfl ?_
  refine g_iload_n B dX6_kept_15 3 rfl ?_
  refine g_ncmp_ge (tgt := 38) B k n rfl rfl (by omega) (by omega) dX6_kept_16 (by decide) (fun c2 => ?_) (fun c2 => ?_)
  · refine g_iload_n B dX6_kept_38 1 rfl ?_
    exact g_iret_p B hr rfl hlocks () (by rw [ks_bc_n (by omega) hS, show n = k by omega]) (trivial) dX6_kept_39
  · refine g_aload_n B dX6_kept_19 2 rfl ?_
    refine g_iload B dX6_kept_20 4 rfl ?_
    refine g_qald B hK 2 3 rfl rfl k rfl (by omega) (by omega) (r := (ka k)) rfl dX6_kept_22 ?_
    refine g_astore (lv' := [(0, .ref gb), (1, .int (nI (fb_ct (fun j => hasB S j) k))), (2, .ref gk), (3, .int (nI n)), (4, .int (nI k)), (5, .ref (ka k))]) B dX6_kept_23 (by decide) [1, 2, 3, 4, 5, 0] rfl ?_
    refine g_iload_n B dX6_kept_25 1 rfl ?_
    refine g_aload B dX6_kept_26 5 rfl ?_
    refine g_iconst (v := (1 : Int32)) B dX6_kept_28 (by decide) ?_
    refine g_iald B hK _ 0 (tl_g4 (i := k) (by omega)) rfl 1 rfl (by omega) (by omega) (v := bI (hasB S k)) (rfl) dX6_kept_29 ?_
    refine g_iadd (v := (nI (fb_ct (fun j => hasB S j) k) + bI (hasB S k))) B dX6_kept_30 (rfl) ?_
    refine g_eqi (y := nI (fb_ct (fun j => hasB S j) (k + 1))) (by rw [fb_ct_succ]; cases hasB S k <;> first | rfl | exact nI_add _ _) ?_
    refine g_istore_n (lv' := [(0, .ref gb), (1, .int (nI (fb_ct (fun j => hasB S j) (k + 1)))), (2, .ref gk), (3, .int (nI n)), (4, .int (nI k)), (5, .ref (ka k))]) B dX6_kept_31 rfl (by decide) [1, 0, 2, 3, 4, 5] rfl ?_
    refine g_iinc (lv' := [(0, .ref gb), (1, .int (nI (fb_ct (fun j => hasB S j) (k + 1)))), (2, .ref gk), (3, .int (nI n)), (4, .int (nI (k + 1))), (5, .ref (ka k))]) B dX6_kept_32 4 rfl (nI_1 k) (by decide) [1, 2, 3, 4, 0, 5] rfl ?_
    refine g_goto (tgt := 13) B dX6_kept_35 (by decide) ?_
    exact g_pick [0, 1, 2, 3, 4] rfl (ih13 (k + 1) (by (try dsimp only); omega) (by (try dsimp only); omega))

