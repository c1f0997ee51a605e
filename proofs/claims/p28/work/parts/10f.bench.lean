/-! the bench: tasting -/
theorem kd_X6_numberOf : yX6_numberOf.cls ≠ "java/lang/invoke/MethodHandle" ∧ yX6_numberOf.cls ≠ "java/lang/invoke/VarHandle" ∧ (parseMethodDescriptor yX6_numberOf.desc).map (fun d => d.parameters.length) = some 1 := by decide +kernel
theorem kd_X6_with : yX6_with.cls ≠ "java/lang/invoke/MethodHandle" ∧ yX6_with.cls ≠ "java/lang/invoke/VarHandle" ∧ (parseMethodDescriptor yX6_with.desc).map (fun d => d.parameters.length) = some 2 := by decide +kernel
theorem hin_X6_numberOf_RX6 : ∀ z ∈ u_ws RX6 TX6 8, z ∈ wsX6_numberOf := by decide +kernel
theorem hin_X6_taste_RX6 : ∀ z ∈ u_ws RX6 TX6 8, z ∈ wsX6_taste := by decide +kernel
theorem tl_g4n {cI : ClassId} {n1 : Nat} {a1 : Nat → Nat} {f1 : Nat → Nat → Int32} {n2 : Nat} {a2 : Nat → Nat} {f2 : Nat → Nat → Int32} {n3 : Nat} {a3 : Nat → Nat} {f3 : Nat → Nat → Int32} {n4 : Nat} {a4 : Nat → Nat} {f4 : Nat → Nat → Int32} {i : Nat} (h : i < n4) : (tl_T cI n1 a1 f1 n2 a2 f2 n3 a3 f3 n4 a4 f4)[0 + (n1 + (n2 + (n3 + i)))]? = some (a4 i, .inl (cI, 3, .inl (f4 i))) := tl_g4 (X := []) h
theorem tl_g3n {cI : ClassId} {n1 : Nat} {a1 : Nat → Nat} {f1 : Nat → Nat → Int32} {n2 : Nat} {a2 : Nat → Nat} {f2 : Nat → Nat → Int32} {n3 : Nat} {a3 : Nat → Nat} {f3 : Nat → Nat → Int32} {n4 : Nat} {a4 : Nat → Nat} {f4 : Nat → Nat → Int32} {i : Nat} (h : i < n3) : (tl_T cI n1 a1 f1 n2 a2 f2 n3 a3 f3 n4 a4 f4)[0 + (n1 + (n2 + i))]? = some (a3 i, .inl (cI, 3, .inl (f3 i))) := tl_g3 (X := []) h
set_option maxHeartbeats 4000000 in
set_option maxRecDepth 100000 in
theorem b_numberOf (l : Launch) {D : va_G} {cI cL cZ cQ : ClassId} (gb : Nat) (gn : Nat) (gv : Nat) (gk : Nat) (gr : Nat) (hb : Nat) (b : Nat) (dw : Nat) (sd : Nat) (na : Nat → Nat) (wa : Nat → Nat) (ra : Nat → Nat) (ka : Nat → Nat) (P : Pg) (W : Wg) (Q : Rg) (rc : Nat) (t : Nat → Nat) (n : Nat) (S : Int64) (mu : Nat → Nat) (ca : Nat) (hn16 : n ≤ 16) (ht4 : ∀ i, i < n → t i < 10000) (hca : ca < 10000) : PM l yX6_numberOf wsX6_numberOf ({ frames := 0, cells := 0, slots := 0, locals := 0 } : Room) D (gTys cI cL cZ cQ) [.ref gb, .int (nI ca)] ([(gb, .inr (6, [.ref hb, .ref b, .int (nI dw), .ref gn, .ref gv, .int (nI sd), .ref gk, .ref gr])), (gk, .inl (cQ, n, .inr (.inr (.inr (.inr (fun i => some (ka i)))))))] ++ (tl_T cI 12 na (ks_nr P) 4 wa (ks_wr W) rc ra (ks_rr Q) n ka (ks_kn t S mu))) (fun (_ : Unit) => True) (fun (_ : Unit) => some (.int (ks_oI n (ks_no t n ca)))) := by
  refine PM.ofG cX6_numberOf 3 (some .int) (by decide +kernel) rfl (Nat.le_of_ble_eq_true rfl) ?_
  intro p e s m below meth c B hr hlocks hname hK hN
  refine g_iconst (v := (0 : Int32)) B dX6_numberOf_0 (by decide) ?_
  refine g_istore_n (lv' := [(0, .ref gb), (1, .int (nI ca)), (2, .int (0 : Int32))]) B dX6_numberOf_1 rfl (by decide) [1, 2, 0] rfl ?_
  refine g_loop (σ := Nat) (fun x9 => x9 ≤ n ∧ ∀ j, j < x9 → t j ≠ ca) (fun x9 => 17 - x9) (fun x9 => 0) (fun x9 => 0) (fun x9 => ([(gb, .inr (6, [.ref hb, .ref b, .int (nI dw), .ref gn, .ref gv, .int (nI sd), .ref gk, .ref gr])), (gk, .inl (cQ, n, .inr (.inr (.inr (.inr (fun i => some (ka i)))))))] ++ (tl_T cI 12 na (ks_nr P) 4 wa (ks_wr W) rc ra (ks_rr Q) n ka (ks_kn t S mu)))) (fun x9 => [(0, .ref gb), (1, .int (nI ca)), (2, .int (nI x9))]) (fun x9 hI ih2 => ?_) 0 (⟨by omega, fun j h => absurd h (Nat.not_lt_zero j)⟩) rfl rfl rfl rfl
  obtain ⟨k, e9⟩ : ∃ z, z = x9 := ⟨_, rfl⟩; subst e9
  try dsimp only at hI ih2 ⊢
  obtain ⟨i1, i2⟩ := hI
  refine g_iload_n B dX6_numberOf_2 2 rfl ?_
  refine g_aload_n B dX6_numberOf_3 0 rfl ?_
  refine g_get (C := RX6) (T := TX6) (N := 8) (ci := 6) B hK hin_X6_numberOf_RX6 0 rfl rfl 6 (by decide) (List.mem_of_getElem? (i := 1) rfl) rfl (v := .ref gk) rfl dX6_numberOf_4 ?_
  refine g_alen (v := nI n) B hK 1 3 rfl rfl rfl dX6_numberOf_7 ?_
  refine g_ncmp_ge (tgt := 31) B k n rfl rfl (by omega) (by omega) dX6_numberOf_8 (by decide) (fun c1 => ?_) (fun c1 => ?_)
  · refine g_iconst (v := (-1 : Int32)) B dX6_numberOf_31 (by decide) ?_
    exact g_iret_p B hr rfl hlocks () (by rw [ks_no_none (fun j hj => i2 j (by omega))]; unfold ks_oI; rw [if_neg (by omega)]) (trivial) dX6_numberOf_32
  · refine g_aload_n B dX6_numberOf_11 0 rfl ?_
    refine g_get (C := RX6) (T := TX6) (N := 8) (ci := 6) B hK hin_X6_numberOf_RX6 0 rfl rfl 6 (by decide) (List.mem_of_getElem? (i := 1) rfl) rfl (v := .ref gk) rfl dX6_numberOf_12 ?_
    refine g_iload_n B dX6_numberOf_15 2 rfl ?_
    refine g_qald B hK 1 3 rfl rfl k rfl (by omega) (by omega) (r := (ka k)) rfl dX6_numberOf_16 ?_
    refine g_iconst (v := (0 : Int32)) B dX6_numberOf_17 (by decide) ?_
    refine g_iald B hK _ 0 (tl_g4 (i := k) (by omega)) rfl 0 rfl (by omega) (by omega) (v := nI (t k)) (rfl) dX6_numberOf_18 ?_
    have hk0 := ht4 k (by omega)
    refine g_iload_n B dX6_numberOf_19 1 rfl ?_
    refine g_ncmp_ne (tgt := 25) B (t k) ca rfl rfl (by omega) (by omega) dX6_numberOf_20 (by decide) (fun c2 => ?_) (fun c2 => ?_)
    · refine g_iinc (lv' := [(0, .ref gb), (1, .int (nI ca)), (2, .int (nI (k + 1)))]) B dX6_numberOf_25 2 rfl (nI_1 k) (by decide) [1, 2, 0] rfl ?_
      refine g_goto (tgt := 2) B dX6_numberOf_28 (by decide) ?_
      exact ih2 (k + 1) (⟨by omega, lt_s i2 c2⟩) (by (try dsimp only); omega)
    · refine g_iload_n B dX6_numberOf_23 2 rfl ?_
      exact g_iret_p B hr rfl hlocks () (by rw [ks_no_at (by omega) i2 c2]; unfold ks_oI; rw [if_pos (by omega)]) (trivial) dX6_numberOf_24

set_option maxHeartbeats 4000000 in
set_option maxRecDepth 100000 in
theorem b_with (l : Launch) {D : va_G} {cI cL cZ cQ : ClassId} (aw : Nat) (mo : Nat) (m : Nat) (f : Nat → Option Nat) (g : Nat → Int32) (n1 : Nat) (n2 : Nat) (n3 : Nat) (n4 : Nat) (na : Nat → Nat) (wa : Nat → Nat) (ra : Nat → Nat) (ka : Nat → Nat) (z1 : Nat → Nat → Int32) (z2 : Nat → Nat → Int32) (z3 : Nat → Nat → Int32) (z4 : Nat → Nat → Int32) (hm : m ≤ 40) (hel : ∀ i, i < m → ∃ (y qk : Nat) (x : vp_A), f i = some y ∧ (tl_T cI n1 na z1 n2 wa z2 n3 ra z3 n4 ka z4)[qk]? = some (y, .inl (cI, x))) : WM l yX6_with wsX6_with ({ frames := 1, cells := 1, slots := m + 1, locals := 60 } : Room) D (gTys cI cL cZ cQ) [.ref aw, .ref mo] ([(aw, .inl (cQ, m, .inr (.inr (.inr (.inr f))))), (mo, .inl (cI, 3, .inl g))] ++ (tl_T cI n1 na z1 n2 wa z2 n3 ra z3 n4 ka z4)) (fun (q : Nat × (Nat → Option Nat)) => (∀ j, j < m → q.2 j = f j) ∧ q.2 m = some mo) (fun (q : Nat × (Nat → Option Nat)) => some (.ref q.1)) (fun (q : Nat × (Nat → Option Nat)) => ([(aw, .inl (cQ, m, .inr (.inr (.inr (.inr f))))), (mo, .inl (cI, 3, .inl g)), (q.1, .inl (cQ, (m + 1), .inr (.inr (.inr (.inr q.2)))))] ++ (tl_T cI n1 na z1 n2 wa z2 n3 ra z3 n4 ka z4))) := by
  refine WM.ofG cX6_with 3 (some (.array (.array .int))) (by decide +kernel) rfl (Nat.le_of_ble_eq_true rfl) ?_
  intro p e s m below meth c A hA B hr hlocks hname hK hN
  refine g_aload_n B dX6_with_0 0 rfl ?_
  refine g_alen (v := nI m) B hK 0 3 rfl rfl rfl dX6_with_1 ?_
  refine g_iconst (v := (1 : Int32)) B dX6_with_2 (by decide) ?_
  refine g_iadd (v := nI (m + 1)) B dX6_with_3 (nI_add m 1) ?_
  refine g_qnew B hK hN hA 3 rfl (List.mem_of_getElem? (i := 1) rfl) (nI_pos (by omega)) (nI_clamp (by omega)) (by omega) (by (try dsimp only); omega) (by (try dsimp only); omega) dX6_with_4 (fun q1 => ?_)
  refine g_perm (tl_sw _ _ _) ?_
  refine g_eqw (w2 := ([(aw, .inl (cQ, m, .inr (.inr (.inr (.inr f))))), (mo, .inl (cI, 3, .inl g)), (q1, .inl (cQ, (m + 1), .inr (.inr (.inr (.inr (fun _ => none))))))] ++ (tl_T cI n1 na z1 n2 wa z2 n3 ra z3 n4 ka z4))) rfl ?_
  refine g_astore_n (lv' := [(0, .ref aw), (1, .ref mo), (2, .ref q1)]) B dX6_with_7 rfl (by decide) [1, 2, 0] rfl ?_
  refine g_aload_n B dX6_with_8 0 rfl ?_
  refine g_iconst (v := (0 : Int32)) B dX6_with_9 (by decide) ?_
  refine g_aload_n B dX6_with_10 2 rfl ?_
  refine g_iconst (v := (0 : Int32)) B dX6_with_11 (by decide) ?_
  refine g_aload_n B dX6_with_12 0 rfl ?_
  refine g_alen (v := nI m) B hK 0 3 rfl rfl rfl dX6_with_13 ?_
  refine g_qcopy B hK hN (List.mem_of_getElem? (i := 2) rfl) (List.mem_of_getElem? (i := 3) rfl) (List.mem_of_getElem? (i := 4) rfl) (List.mem_of_getElem? (i := 5) rfl) 0 2 3 0 rfl rfl rfl rfl m rfl (by omega) (by omega) (by omega) (fun i hi => by obtain ⟨y, qk, x, h1, h2⟩ := hel i hi; exact ⟨y, _, x, h1, (app_get _ _ qk).trans h2⟩) (w2 := ([(aw, .inl (cQ, m, .inr (.inr (.inr (.inr f))))), (mo, .inl (cI, 3, .inl g)), (q1, .inl (cQ, (m + 1), .inr (.inr (.inr (.inr (va_cpy f (fun _ => none) 0 0 m))))))] ++ (tl_T cI n1 na z1 n2 wa z2 n3 ra z3 n4 ka z4))) rfl (fun _ h => h) (by decide) (by decide) dX6_with_14 ?_
  refine g_aload_n B dX6_with_17 2 rfl ?_
  refine g_aload_n B dX6_with_18 0 rfl ?_
  refine g_alen (v := nI m) B hK 0 3 rfl rfl rfl dX6_with_19 ?_
  refine g_aload_n B dX6_with_20 1 rfl ?_
  refine g_qast B hK hN 2 3 1 0 rfl rfl rfl rfl m rfl (by omega) (by omega) (f2 := (va_up (va_cpy f (fun _ => none) 0 0 m) m (some mo))) rfl (w2 := ([(aw, .inl (cQ, m, .inr (.inr (.inr (.inr f))))), (mo, .inl (cI, 3, .inl g)), (q1, .inl (cQ, (m + 1), .inr (.inr (.inr (.inr (va_up (va_cpy f (fun _ => none) 0 0 m) m (some mo)))))))] ++ (tl_T cI n1 na z1 n2 wa z2 n3 ra z3 n4 ka z4))) rfl (fun _ h => h) dX6_with_21 ?_
  refine g_aload_n B dX6_with_22 2 rfl ?_
  refine g_widen (k := 1) (n := m + 1) (by (try dsimp only); omega) (by (try dsimp only); omega) ?_
  refine g_subT (X2 := [(aw, .inl (cQ, m, .inr (.inr (.inr (.inr f))))), (mo, .inl (cI, 3, .inl g)), (q1, .inl (cQ, (m + 1), .inr (.inr (.inr (.inr (va_up (va_cpy f (fun _ => none) 0 0 m) m (some mo)))))))]) [0, 1, 2] (by decide) rfl ?_
  exact g_aret_x B hr (Or.inr ⟨_, rfl⟩) hlocks (q1, (va_up (va_cpy f (fun _ => none) 0 0 m) m (some mo))) (rfl) (⟨fun j hj => by rw [va_up_ne _ _ (by omega), pk_cpy_in (by omega) (by omega)]; congr 1; omega, va_up_self _ _ _⟩) rfl dX6_with_23

set_option maxHeartbeats 4000000 in
set_option maxRecDepth 100000 in
theorem b_taste (l : Launch) {D : va_G} {cI cL cZ cQ : ClassId} (gb : Nat) (gn : Nat) (gv : Nat) (gk : Nat) (gr : Nat) (hb : Nat) (b : Nat) (dw : Nat) (sd : Nat) (na : Nat → Nat) (wa : Nat → Nat) (ra : Nat → Nat) (ka : Nat → Nat) (P : Pg) (W : Wg) (Q : Rg) (rc : Nat) (t : Nat → Nat) (n : Nat) (S : Int64) (mu : Nat → Nat) (ca : Nat) (hW : ks_WP P) (hca : ca < 10000) (hn15 : n ≤ 15) (ht4 : ∀ i, i < n → t i < 10000) (hap : ks_AP t n) (hS : ks_SK n S) (hmu0 : mu n = 0) : WM l yX6_taste wsX6_taste ({ frames := 7, cells := 128 + 126 * n, slots := 2820 + 2809 * n, locals := 208 } : Room) D (gTys cI cL cZ cQ) [.ref gb, .int (nI ca)] ([(gb, .inr (6, [.ref hb, .ref b, .int (nI dw), .ref gn, .ref gv, .int (nI sd), .ref gk, .ref gr])), (gn, .inl (cQ, 12, .inr (.inr (.inr (.inr (fun i => some (na i))))))), (gk, .inl (cQ, n, .inr (.inr (.inr (.inr (fun i => some (ka i)))))))] ++ (tl_T cI 12 na (ks_nr P) 4 wa (ks_wr W) rc ra (ks_rr Q) n ka (ks_kn t S mu))) (fun (q : Nat × (Nat → Nat)) => True) (fun (q : Nat × (Nat → Nat)) => some (.int (ks_oI (ks_n2 P t n ca S) (ks_no (updN t n ca) (ks_n2 P t n ca S) ca)))) (fun (q : Nat × (Nat → Nat)) => ([(gb, .inr (6, [.ref hb, .ref b, .int (nI dw), .ref gn, .ref gv, .int (nI sd), .ref q.1, .ref gr])), (gn, .inl (cQ, 12, .inr (.inr (.inr (.inr (fun i => some (na i))))))), (q.1, .inl (cQ, (ks_n2 P t n ca S), .inr (.inr (.inr (.inr (fun i => some (q.2 i)))))))] ++ (tl_T cI 12 na (ks_nr P) 4 wa (ks_wr W) rc ra (ks_rr Q) (ks_n2 P t n ca S) q.2 (ks_kn (updN t n ca) (ks_S2 P t n ca S) mu)))) := by
  refine WM.ofG cX6_taste 3 (some .int) (by decide +kernel) rfl (Nat.le_of_ble_eq_true rfl) ?_
  intro p e s m below meth c A hA B hr hlocks hname hK hN
  refine g_aload_n B dX6_taste_0 0 rfl ?_
  refine g_iload_n B dX6_taste_1 1 rfl ?_
  refine g_callP (g_runV (q0 := 0) (ci := 6) B hK rfl rfl (PM.met (b_numberOf l (D := D) (cI := cI) (cL := cL) (cZ := cZ) (cQ := cQ) gb gn gv gk gr hb b dw sd na wa ra ka P W Q rc t n S mu ca (by first | assumption | omega) (by first | assumption | omega) (by first | assumption | omega))) (gPp.preT (av := [.ref gb, .int (nI ca)]) (cx := [(gb, .inr (6, [.ref hb, .ref b, .int (nI dw), .ref gn, .ref gv, .int (nI sd), .ref gk, .ref gr])), (gk, .inl (cQ, n, .inr (.inr (.inr (.inr (fun i => some (ka i)))))))]) hK hN [0, 2] rfl (by decide)) gX6_taste_X6_numberOf rfl rfl kd_X6_numberOf ⟨by decide, by decide⟩ (st := []) rfl (Nat.le_of_ble_eq_true rfl) dX6_taste_2 ⟨by (try dsimp only); omega, by (try dsimp only); omega⟩) (fun u hu => ?_)
  refine g_if_lt (tgt := 14) B dX6_taste_5 (by decide) (fun c2 => ?_) (fun c2 => ?_)
  · have hm : ¬ ks_no t n ca < n := (oI_lt (by omega)).mp c2
    refine g_aload_n B dX6_taste_14 0 rfl ?_
    refine g_iload_n B dX6_taste_15 1 rfl ?_
    refine g_callT (w2 := (fun (_ : Unit) => [(gb, .inr (6, [.ref hb, .ref b, .int (nI dw), .ref gn, .ref gv, .int (nI sd), .ref gk, .ref gr])), (gn, .inl (cQ, 12, .inr (.inr (.inr (.inr (fun i => some (na i))))))), (gk, .inl (cQ, n, .inr (.inr (.inr (.inr (fun i => some (ka i)))))))])) (Tx := (fun (_ : Unit) => (tl_T cI 12 na (ks_nr P) 4 wa (ks_wr W) rc ra (ks_rr Q) n ka (ks_kn t S mu)))) (rx := (fun (_ : Unit) => [(gb, .inr (6, [.ref hb, .ref b, .int (nI dw), .ref gn, .ref gv, .int (nI sd), .ref gk, .ref gr])), (gn, .inl (cQ, 12, .inr (.inr (.inr (.inr (fun i => some (na i))))))), (gk, .inl (cQ, n, .inr (.inr (.inr (.inr (fun i => some (ka i)))))))])) (g_runV (q0 := 0) (ci := 6) B hK rfl rfl (b_isNeeded l (D := D) (cI := cI) (cL := cL) (cZ := cZ) (cQ := cQ) gb gn gv gk gr hb b dw sd na wa ra ka P W Q rc t n S mu ca (by first | assumption | omega) (by first | assumption | omega) (by first | assumption | omega) (by first | assumption | omega)) (gPw.preT (av := [.ref gb, .int (nI ca)]) (cx := [(gb, .inr (6, [.ref hb, .ref b, .int (nI dw), .ref gn, .ref gv, .int (nI sd), .ref gk, .ref gr])), (gn, .inl (cQ, 12, .inr (.inr (.inr (.inr (fun i => some (na i))))))), (gk, .inl (cQ, n, .inr (.inr (.inr (.inr (fun i => some (ka i)))))))]) hK hN [0, 1, 2] rfl (by decide)) gX6_taste_X6_isNeeded rfl rfl kd_X6_isNeeded ⟨by decide, by decide⟩ (st := []) rfl (Nat.le_of_ble_eq_true rfl) dX6_taste_16 ⟨by (try dsimp only); omega, by (try dsimp only); omega⟩) hA (fun _ h => h) [0, 1, 2] [] (wr := []) rfl rfl (by decide) (by decide) [0, 1, 2] (by decide) (fun _ => rfl) (fun u hu => ?_)
    refine g_bif_ne (tgt := 24) B dX6_taste_19 (by decide) (fun c4 => ?_) (fun c4 => ?_)
    · refine g_iconst (v := (3 : Int32)) B dX6_taste_24 (by decide) ?_
      refine g_newa B hK hA 0 rfl rfl (List.mem_of_getElem? (i := 1) rfl) rfl (3, .inl (fun _ => (0 : Int32))) (cellI_new 3) (by decide) (by decide) (by decide) (by decide) (by decide) dX6_taste_25 (fun q5 => ?_)
      refine g_perm (tl_sw _ _ _) ?_
      refine g_eqw (w2 := ([(gb, .inr (6, [.ref hb, .ref b, .int (nI dw), .ref gn, .ref gv, .int (nI sd), .ref gk, .ref gr])), (gn, .inl (cQ, 12, .inr (.inr (.inr (.inr (fun i => some (na i))))))), (gk, .inl (cQ, n, .inr (.inr (.inr (.inr (fun i => some (ka i))))))), (q5, .inl (cI, 3, .inl (fun _ => (0 : Int32))))] ++ (tl_T cI 12 na (ks_nr P) 4 wa (ks_wr W) rc ra (ks_rr Q) n ka (ks_kn t S mu)))) rfl ?_
      refine g_dup B dX6_taste_27 rfl ?_
      refine g_iconst (v := (0 : Int32)) B dX6_taste_28 (by decide) ?_
      refine g_iload_n B dX6_taste_29 1 rfl ?_
      refine g_iast B hK 3 0 rfl rfl 0 rfl (by omega) (by omega) (f2 := (upd (fun _ => (0 : Int32)) 0 (nI ca))) (rfl) (w2 := ([(gb, .inr (6, [.ref hb, .ref b, .int (nI dw), .ref gn, .ref gv, .int (nI sd), .ref gk, .ref gr])), (gn, .inl (cQ, 12, .inr (.inr (.inr (.inr (fun i => some (na i))))))), (gk, .inl (cQ, n, .inr (.inr (.inr (.inr (fun i => some (ka i))))))), (q5, .inl (cI, 3, .inl (upd (fun _ => (0 : Int32)) 0 (nI ca))))] ++ (tl_T cI 12 na (ks_nr P) 4 wa (ks_wr W) rc ra (ks_rr Q) n ka (ks_kn t S mu)))) rfl (fun _ h => h) dX6_taste_30 ?_
      refine g_dup B dX6_taste_31 rfl ?_
      refine g_iconst (v := (1 : Int32)) B dX6_taste_32 (by decide) ?_
      refine g_iconst (v := (1 : Int32)) B dX6_taste_33 (by decide) ?_
      refine g_iast B hK 3 0 rfl rfl 1 rfl (by omega) (by omega) (f2 := (upd (upd (fun _ => (0 : Int32)) 0 (nI ca)) 1 (1 : Int32))) (rfl) (w2 := ([(gb, .inr (6, [.ref hb, .ref b, .int (nI dw), .ref gn, .ref gv, .int (nI sd), .ref gk, .ref gr])), (gn, .inl (cQ, 12, .inr (.inr (.inr (.inr (fun i => some (na i))))))), (gk, .inl (cQ, n, .inr (.inr (.inr (.inr (fun i => some (ka i))))))), (q5, .inl (cI, 3, .inl (upd (upd (fun _ => (0 : Int32)) 0 (nI ca)) 1 (1 : Int32))))] ++ (tl_T cI 12 na (ks_nr P) 4 wa (ks_wr W) rc ra (ks_rr Q) n ka (ks_kn t S mu)))) rfl (fun _ h => h) dX6_taste_34 ?_
      refine g_dup B dX6_taste_35 rfl ?_
      refine g_iconst (v := (2 : Int32)) B dX6_taste_36 (by decide) ?_
      refine g_iconst (v := (0 : Int32)) B dX6_taste_37 (by decide) ?_
      refine g_iast B hK 3 0 rfl rfl 2 rfl (by omega) (by omega) (f2 := (upd (upd (upd (fun _ => (0 : Int32)) 0 (nI ca)) 1 (1 : Int32)) 2 (0 : Int32))) (rfl) (w2 := ([(gb, .inr (6, [.ref hb, .ref b, .int (nI dw), .ref gn, .ref gv, .int (nI sd), .ref gk, .ref gr])), (gn, .inl (cQ, 12, .inr (.inr (.inr (.inr (fun i => some (na i))))))), (gk, .inl (cQ, n, .inr (.inr (.inr (.inr (fun i => some (ka i))))))), (q5, .inl (cI, 3, .inl (upd (upd (upd (fun _ => (0 : Int32)) 0 (nI ca)) 1 (1 : Int32)) 2 (0 : Int32))))] ++ (tl_T cI 12 na (ks_nr P) 4 wa (ks_wr W) rc ra (ks_rr Q) n ka (ks_kn t S mu)))) rfl (fun _ h => h) dX6_taste_38 ?_
      refine g_astore_n (lv' := [(0, .ref gb), (1, .int (nI ca)), (2, .ref q5)]) B dX6_taste_39 rfl (by decide) [1, 2, 0] rfl ?_
      refine g_aload_n B dX6_taste_40 0 rfl ?_
      refine g_aload_n B dX6_taste_41 0 rfl ?_
      refine g_get (C := RX6) (T := TX6) (N := 8) (ci := 6) B hK hin_X6_taste_RX6 0 rfl rfl 6 (by decide) (List.mem_of_getElem? (i := 2) rfl) rfl (v := .ref gk) rfl dX6_taste_42 ?_
      refine g_aload_n B dX6_taste_45 2 rfl ?_
      refine g_callT (w2 := (fun (z9 : Nat × (Nat → Option Nat)) => [(gb, .inr (6, [.ref hb, .ref b, .int (nI dw), .ref gn, .ref gv, .int (nI sd), .ref gk, .ref gr])), (gn, .inl (cQ, 12, .inr (.inr (.inr (.inr (fun i => some (na i))))))), (gk, .inl (cQ, n, .inr (.inr (.inr (.inr (fun i => some (ka i))))))), (q5, .inl (cI, 3, .inl (upd (upd (upd (fun _ => (0 : Int32)) 0 (nI ca)) 1 (1 : Int32)) 2 (0 : Int32)))), (z9.1, .inl (cQ, (n + 1), .inr (.inr (.inr (.inr z9.2)))))])) (Tx := (fun (z9 : Nat × (Nat → Option Nat)) => (tl_T cI 12 na (ks_nr P) 4 wa (ks_wr W) rc ra (ks_rr Q) n ka (ks_kn t S mu)))) (rx := (fun (z9 : Nat × (Nat → Option Nat)) => [(gk, .inl (cQ, n, .inr (.inr (.inr (.inr (fun i => some (ka i))))))), (q5, .inl (cI, 3, .inl (upd (upd (upd (fun _ => (0 : Int32)) 0 (nI ca)) 1 (1 : Int32)) 2 (0 : Int32)))), (z9.1, .inl (cQ, (n + 1), .inr (.inr (.inr (.inr z9.2)))))])) (g_runS B (b_with l (D := D) (cI := cI) (cL := cL) (cZ := cZ) (cQ := cQ) gk q5 n (fun i => some (ka i)) (upd (upd (upd (fun _ => (0 : Int32)) 0 (nI ca)) 1 (1 : Int32)) 2 (0 : Int32)) 12 4 rc n na wa ra ka (ks_nr P) (ks_wr W) (ks_rr Q) (ks_kn t S mu) (by first | assumption | omega) (fun i hi => ⟨ka i, _, _, rfl, tl_g4n (by omega)⟩)) (gPw.preT (av := [.ref gk, .ref q5]) (cx := [(gk, .inl (cQ, n, .inr (.inr (.inr (.inr (fun i => some (ka i))))))), (q5, .inl (cI, 3, .inl (upd (upd (upd (fun _ => (0 : Int32)) 0 (nI ca)) 1 (1 : Int32)) 2 (0 : Int32))))]) hK hN [2, 3] rfl (by decide)) gX6_taste_X6_with rfl kd_X6_with ⟨by decide, by decide⟩ (st := [.ref gb]) rfl (Nat.le_of_ble_eq_true rfl) dX6_taste_46 ⟨by (try dsimp only); omega, by (try dsimp only); omega⟩) hA (fun _ h => h) [2, 3] [0, 1] (wr := [(gb, .inr (6, [.ref hb, .ref b, .int (nI dw), .ref gn, .ref gv, .int (nI sd), .ref gk, .ref gr])), (gn, .inl (cQ, 12, .inr (.inr (.inr (.inr (fun i => some (na i)))))))]) rfl rfl (by decide) (by decide) [0, 1, 2, 3, 4] (by decide) (fun _ => rfl) (fun u hu => ?_)
      obtain ⟨r_6, h_6⟩ := u
      try dsimp only at hu ⊢
      have hu6 := hu
      refine g_put (C := RX6) (T := TX6) (N := 8) (ci := 6) B hK hin_X6_taste_RX6 0 rfl rfl 6 (by decide) tyX6 tyX6_ok nmX6 (List.mem_of_getElem? (i := 2) rfl) rfl rfl (ty := .object "[") (v := .ref r_6) (by decide +kernel) rfl rfl (Nat.le_of_ble_eq_true rfl) (w2 := ([(gb, .inr (6, [.ref hb, .ref b, .int (nI dw), .ref gn, .ref gv, .int (nI sd), .ref r_6, .ref gr])), (gn, .inl (cQ, 12, .inr (.inr (.inr (.inr (fun i => some (na i))))))), (gk, .inl (cQ, n, .inr (.inr (.inr (.inr (fun i => some (ka i))))))), (q5, .inl (cI, 3, .inl (upd (upd (upd (fun _ => (0 : Int32)) 0 (nI ca)) 1 (1 : Int32)) 2 (0 : Int32)))), (r_6, .inl (cQ, (n + 1), .inr (.inr (.inr (.inr h_6)))))] ++ (tl_T cI 12 na (ks_nr P) 4 wa (ks_wr W) rc ra (ks_rr Q) n ka (ks_kn t S mu)))) rfl (fun _ h => h) dX6_taste_49 ?_
      have hz := at_ne (S := S) (at_new (P := P) (ks_no_out hm)) (by omega) (Nat.le_refl n) hS hW
      rw [c4] at hz
      have hz2 := of_decide_eq_false ((Bool.not_eq_true' _).mp hz.symm)
      refine g_arrQ 4 (fun i => some ((va_up ka n q5) i)) rfl (fun j hj => by by_cases hjn : j = n; · rw [hjn, hu6.2, va_up_self]; · rw [hu6.1 j (by omega), va_up_ne _ _ hjn]) (w2 := ([(gb, .inr (6, [.ref hb, .ref b, .int (nI dw), .ref gn, .ref gv, .int (nI sd), .ref r_6, .ref gr])), (gn, .inl (cQ, 12, .inr (.inr (.inr (.inr (fun i => some (na i))))))), (gk, .inl (cQ, n, .inr (.inr (.inr (.inr (fun i => some (ka i))))))), (q5, .inl (cI, 3, .inl (upd (upd (upd (fun _ => (0 : Int32)) 0 (nI ca)) 1 (1 : Int32)) 2 (0 : Int32)))), (r_6, .inl (cQ, (n + 1), .inr (.inr (.inr (.inr (fun i => some ((va_up ka n q5) i)))))))] ++ (tl_T cI 12 na (ks_nr P) 4 wa (ks_wr W) rc ra (ks_rr Q) n ka (ks_kn t S mu)))) rfl ?_
      refine g_subT (X2 := [(gb, .inr (6, [.ref hb, .ref b, .int (nI dw), .ref gn, .ref gv, .int (nI sd), .ref r_6, .ref gr])), (gn, .inl (cQ, 12, .inr (.inr (.inr (.inr (fun i => some (na i))))))), (r_6, .inl (cQ, (n + 1), .inr (.inr (.inr (.inr (fun i => some ((va_up ka n q5) i))))))), (q5, .inl (cI, 3, .inl (upd (upd (upd (fun _ => (0 : Int32)) 0 (nI ca)) 1 (1 : Int32)) 2 (0 : Int32))))]) [0, 1, 4, 3] (by decide) rfl ?_
      refine g_perm (w2 := ([(gb, .inr (6, [.ref hb, .ref b, .int (nI dw), .ref gn, .ref gv, .int (nI sd), .ref r_6, .ref gr])), (gn, .inl (cQ, 12, .inr (.inr (.inr (.inr (fun i => some (na i))))))), (r_6, .inl (cQ, (n + 1), .inr (.inr (.inr (.inr (fun i => some ((va_up ka n q5) i)))))))] ++ (tl_T cI 12 na (ks_nr P) 4 wa (ks_wr W) rc ra (ks_rr Q) (n + 1) (va_up ka n q5) (tl_up (ks_kn t S mu) n (upd (upd (upd (fun _ => (0 : Int32)) 0 (nI ca)) 1 (1 : Int32)) 2 (0 : Int32)))))) (tl_i4 (X := [(gb, .inr (6, [.ref hb, .ref b, .int (nI dw), .ref gn, .ref gv, .int (nI sd), .ref r_6, .ref gr])), (gn, .inl (cQ, 12, .inr (.inr (.inr (.inr (fun i => some (na i))))))), (r_6, .inl (cQ, (n + 1), .inr (.inr (.inr (.inr (fun i => some ((va_up ka n q5) i)))))))])) ?_
      refine g_eqw (w2 := ([(gb, .inr (6, [.ref hb, .ref b, .int (nI dw), .ref gn, .ref gv, .int (nI sd), .ref r_6, .ref gr])), (gn, .inl (cQ, 12, .inr (.inr (.inr (.inr (fun i => some (na i))))))), (r_6, .inl (cQ, (n + 1), .inr (.inr (.inr (.inr (fun i => some ((va_up ka n q5) i)))))))] ++ (tl_T cI 12 na (ks_nr P) 4 wa (ks_wr W) rc ra (ks_rr Q) (n + 1) (va_up ka n q5) (ks_kn (updN t n ca) (S ||| lShl 1 (nI n)) mu)))) (tl_c4 (kn_push (by omega) hS hmu0)) ?_
      refine g_pick (lv2 := [(0, .ref gb), (1, .int (nI ca))]) [0, 1] rfl ?_
      refine g_aload_n B dX6_taste_52 0 rfl ?_
      refine g_callT (w2 := (fun (_ : Unit) => [(gb, .inr (6, [.ref hb, .ref b, .int (nI dw), .ref gn, .ref gv, .int (nI sd), .ref r_6, .ref gr])), (gn, .inl (cQ, 12, .inr (.inr (.inr (.inr (fun i => some (na i))))))), (r_6, .inl (cQ, (n + 1), .inr (.inr (.inr (.inr (fun i => some ((va_up ka n q5) i)))))))])) (Tx := (fun (_ : Unit) => (tl_T cI 12 na (ks_nr P) 4 wa (ks_wr W) rc ra (ks_rr Q) (n + 1) (va_up ka n q5) (ks_kn (updN (ks_nS (ks_F P (updN) t 41) (n ca) (S ||| lShl 1 (nI n)) mu))))) (rx := (fun (_ : Unit) => [(gb, .inr (6, [.ref hb, .ref b, .int (nI dw), .ref gn, .ref gv, .int (nI sd), .ref r_6, .ref gr])), (gn, .inl (cQ, 12, .inr (.inr (.inr (.inr (fun i => some (na i))))))), (r_6, .inl (cQ, (n + 1), .inr (.inr (.inr (.inr (fun i => some ((va_up ka n q5) i)))))))])) (g_runV (q0 := 0) (ci := 6) B hK rfl rfl (b_drop l (D := D) (cI := cI) (cL := cL) (cZ := cZ) (cQ := cQ) gb gn gv r_6 gr hb b dw sd na wa ra (va_up ka n q5) P W Q rc (updN (n + 1) t (n ca) (S ||| lShl 1 (nI n)) mu) (by first | assumption | omega) (by first | assumption | omega) (fun i hi => by by_cases e : i = n; · rw [e, updN_at]; exact hca; · rw [updN_ne e]; exact ht4 i (by omega)) (AP_push hap (ks_no_out hm)) (SK_push (by omega) hS)) (gPw.preT (av := [.ref gb]) (cx := [(gb, .inr (6, [.ref hb, .ref b, .int (nI dw), .ref gn, .ref gv, .int (nI sd), .ref r_6, .ref gr])), (gn, .inl (cQ, 12, .inr (.inr (.inr (.inr (fun i => some (na i))))))), (r_6, .inl (cQ, (n + 1), .inr (.inr (.inr (.inr (fun i => some ((va_up ka n q5) i)))))))]) hK hN [0, 1, 2] rfl (by decide)) gX6_taste_X6_drop rfl rfl kd_X6_drop ⟨by decide, by decide⟩ (st := []) rfl (Nat.le_of_ble_eq_true rfl) dX6_taste_53 ⟨by (try dsimp only); omega, by (try dsimp only); omega⟩) hA (fun _ h => h) [0, 1, 2] [] (wr := []) rfl rfl (by decide) (by decide) [0, 1, 2] (by decide) (fun _ => rfl) (fun u hu => ?_)
      refine g_aload_n B dX6_taste_56 0 rfl ?_
      refine g_get (C := RX6) (T := TX6) (N := 8) (ci := 6) B hK hin_X6_taste_RX6 0 rfl rfl 6 (by decide) (List.mem_of_getElem? (i := 2) rfl) rfl (v := .ref r_6) rfl dX6_taste_57 ?_
      refine g_alen (v := nI (n + 1)) B hK 2 3 rfl rfl rfl dX6_taste_60 ?_
      refine g_iconst (v := (1 : Int32)) B dX6_taste_61 (by decide) ?_
      refine g_isub (v := nI ((n + 1) - 1)) B dX6_taste_62 (pk_sub (by omega)) ?_
      obtain ⟨e1, e2⟩ := S2_yes (by omega) hS hm hz2
      refine g_eqw (w2 := ([(gb, .inr (6, [.ref hb, .ref b, .int (nI dw), .ref gn, .ref gv, .int (nI sd), .ref r_6, .ref gr])), (gn, .inl (cQ, 12, .inr (.inr (.inr (.inr (fun i => some (na i))))))), (r_6, .inl (cQ, (ks_n2 P t n ca S), .inr (.inr (.inr (.inr (fun i => some ((va_up ka n q5) i)))))))] ++ (tl_T cI 12 na (ks_nr P) 4 wa (ks_wr W) rc ra (ks_rr Q) (ks_n2 P t n ca S) (va_up ka n q5) (ks_kn (updN t n ca) (ks_S2 P t n ca S) mu)))) (by rw [e1, e2]) ?_
      refine g_eqi (y := (ks_oI (ks_n2 P t n ca S) (ks_no (updN t n ca) (ks_n2 P t n ca S) ca))) (by rw [e2, no_push hm]; unfold ks_oI; rw [if_pos (by omega)]; exact pk_sub (a := n + 1) (b := 1) (by omega)) ?_
      refine g_widen (k := 128 + 126 * n) (n := 2820 + 2809 * n) (by (try dsimp only); omega) (by (try dsimp only); omega) ?_
      refine g_subT (X2 := [(gb, .inr (6, [.ref hb, .ref b, .int (nI dw), .ref gn, .ref gv, .int (nI sd), .ref r_6, .ref gr])), (gn, .inl (cQ, 12, .inr (.inr (.inr (.inr (fun i => some (na i))))))), (r_6, .inl (cQ, (ks_n2 P t n ca S), .inr (.inr (.inr (.inr (fun i => some ((va_up ka n q5) i)))))))]) [0, 1, 2] (by decide) rfl ?_
      exact g_iret_x B hr rfl hlocks (r_6, (va_up ka n q5)) (rfl) (trivial) rfl dX6_taste_63
    · refine g_iconst (v := (-1 : Int32)) B dX6_taste_22 (by decide) ?_
      skip
      have hz := at_ne (S := S) (at_new (P := P) (ks_no_out hm)) (by omega) (Nat.le_refl n) hS hW
      rw [c4] at hz
      obtain ⟨e1, e2⟩ := S2_no hm (of_decide_eq_true ((Bool.not_eq_false' _).mp hz.symm))
      refine g_eqw (w2 := ([(gb, .inr (6, [.ref hb, .ref b, .int (nI dw), .ref gn, .ref gv, .int (nI sd), .ref gk, .ref gr])), (gn, .inl (cQ, 12, .inr (.inr (.inr (.inr (fun i => some (na i))))))), (gk, .inl (cQ, (ks_n2 P t n ca S), .inr (.inr (.inr (.inr (fun i => some (ka i)))))))] ++ (tl_T cI 12 na (ks_nr P) 4 wa (ks_wr W) rc ra (ks_rr Q) (ks_n2 P t n ca S) ka (ks_kn (updN t n ca) (ks_S2 P t n ca S) mu)))) (by rw [e1, e2]; exact tl_c4 (kn_same (Nat.le_refl n))) ?_
      refine g_eqi (y := (ks_oI (ks_n2 P t n ca S) (ks_no (updN t n ca) (ks_n2 P t n ca S) ca))) (by rw [e2, no_upd (Nat.le_refl n)]; exact (by unfold ks_oI; rw [if_neg hm])) ?_
      refine g_widen (k := 128 + 126 * n) (n := 2820 + 2809 * n) (by (try dsimp only); omega) (by (try dsimp only); omega) ?_
      refine g_subT (X2 := [(gb, .inr (6, [.ref hb, .ref b, .int (nI dw), .ref gn, .ref gv, .int (nI sd), .ref gk, .ref gr])), (gn, .inl (cQ, 12, .inr (.inr (.inr (.inr (fun i => some (na i))))))), (gk, .inl (cQ, (ks_n2 P t n ca S), .inr (.inr (.inr (.inr (fun i => some (ka i)))))))]) [0, 1, 2] (by decide) rfl ?_
      exact g_iret_x B hr rfl hlocks (gk, ka) (rfl) (trivial) rfl dX6_taste_23
  · refine g_aload_n B dX6_taste_8 0 rfl ?_
    refine g_iload_n B dX6_taste_9 1 rfl ?_
    refine g_callP (g_runV (q0 := 0) (ci := 6) B hK rfl rfl (PM.met (b_numberOf l (D := D) (cI := cI) (cL := cL) (cZ := cZ) (cQ := cQ) gb gn gv gk gr hb b dw sd na wa ra ka P W Q rc t n S mu ca (by first | assumption | omega) (by first | assumption | omega) (by first | assumption | omega))) (gPp.preT (av := [.ref gb, .int (nI ca)]) (cx := [(gb, .inr (6, [.ref hb, .ref b, .int (nI dw), .ref gn, .ref gv, .int (nI sd), .ref gk, .ref gr])), (gk, .inl (cQ, n, .inr (.inr (.inr (.inr (fun i => some (ka i)))))))]) hK hN [0, 2] rfl (by decide)) gX6_taste_X6_numberOf rfl rfl kd_X6_numberOf ⟨by decide, by decide⟩ (st := []) rfl (Nat.le_of_ble_eq_true rfl) dX6_taste_10 ⟨by (try dsimp only); omega, by (try dsimp only); omega⟩) (fun u hu => ?_)
    have hm : ks_no t n ca < n := Classical.not_not.mp (fun z => c2 ((oI_lt (by omega)).mpr z))
    obtain ⟨e1, e2⟩ := S2_known hm
    refine g_eqw (w2 := ([(gb, .inr (6, [.ref hb, .ref b, .int (nI dw), .ref gn, .ref gv, .int (nI sd), .ref gk, .ref gr])), (gn, .inl (cQ, 12, .inr (.inr (.inr (.inr (fun i => some (na i))))))), (gk, .inl (cQ, (ks_n2 P t n ca S), .inr (.inr (.inr (.inr (fun i => some (ka i)))))))] ++ (tl_T cI 12 na (ks_nr P) 4 wa (ks_wr W) rc ra (ks_rr Q) (ks_n2 P t n ca S) ka (ks_kn (updN t n ca) (ks_S2 P t n ca S) mu)))) (by rw [e1, e2]; exact tl_c4 (kn_same (Nat.le_refl n))) ?_
    refine g_eqi (y := (ks_oI (ks_n2 P t n ca S) (ks_no (updN t n ca) (ks_n2 P t n ca S) ca))) (by rw [e2, no_upd (Nat.le_refl n)]) ?_
    refine g_widen (k := 128 + 126 * n) (n := 2820 + 2809 * n) (by (try dsimp only); omega) (by (try dsimp only); omega) ?_
    refine g_subT (X2 := [(gb, .inr (6, [.ref hb, .ref b, .int (nI dw), .ref gn, .ref gv, .int (nI sd), .ref gk, .ref gr])), (gn, .inl (cQ, 12, .inr (.inr (.inr (.inr (fun i => some (na i))))))), (gk, .inl (cQ, (ks_n2 P t n ca S), .inr (.inr (.inr (.inr (fun i => some (ka i)))))))]) [0, 1, 2] (by decide) rfl ?_
    exact g_iret_x B hr rfl hlocks (gk, ka) (rfl) (trivial) rfl dX6_taste_13

