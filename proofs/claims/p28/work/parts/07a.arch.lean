/-! the class: archive -/
theorem kd_X0_energyOf : yX0_energyOf.cls ≠ "java/lang/invoke/MethodHandle" ∧ yX0_energyOf.cls ≠ "java/lang/invoke/VarHandle" ∧ (parseMethodDescriptor yX0_energyOf.desc).map (fun d => d.parameters.length) = some 1 := by decide +kernel
theorem kd_X0_foundAloneBy : yX0_foundAloneBy.cls ≠ "java/lang/invoke/MethodHandle" ∧ yX0_foundAloneBy.cls ≠ "java/lang/invoke/VarHandle" ∧ (parseMethodDescriptor yX0_foundAloneBy.desc).map (fun d => d.parameters.length) = some 2 := by decide +kernel
theorem kd_X0_foundBy : yX0_foundBy.cls ≠ "java/lang/invoke/MethodHandle" ∧ yX0_foundBy.cls ≠ "java/lang/invoke/VarHandle" ∧ (parseMethodDescriptor yX0_foundBy.desc).map (fun d => d.parameters.length) = some 1 := by decide +kernel
theorem kd_X0_isKept : yX0_isKept.cls ≠ "java/lang/invoke/MethodHandle" ∧ yX0_isKept.cls ≠ "java/lang/invoke/VarHandle" ∧ (parseMethodDescriptor yX0_isKept.desc).map (fun d => d.parameters.length) = some 1 := by decide +kernel
theorem kd_X0_neededOf : yX0_neededOf.cls ≠ "java/lang/invoke/MethodHandle" ∧ yX0_neededOf.cls ≠ "java/lang/invoke/VarHandle" ∧ (parseMethodDescriptor yX0_neededOf.desc).map (fun d => d.parameters.length) = some 1 := by decide +kernel
theorem kd_X5_edgesIn : yX5_edgesIn.cls ≠ "java/lang/invoke/MethodHandle" ∧ yX5_edgesIn.cls ≠ "java/lang/invoke/VarHandle" ∧ (parseMethodDescriptor yX5_edgesIn.desc).map (fun d => d.parameters.length) = some 1 := by decide +kernel
theorem hin_X0_allKnown_RX0 : ∀ z ∈ u_ws RX0 TX0 6, z ∈ wsX0_allKnown := by decide +kernel
theorem hin_X0_coverersOf_RX0 : ∀ z ∈ u_ws RX0 TX0 6, z ∈ wsX0_coverersOf := by decide +kernel
theorem hin_X0_energyOf_RX0 : ∀ z ∈ u_ws RX0 TX0 6, z ∈ wsX0_energyOf := by decide +kernel
theorem hin_X0_foundAloneBy_RX0 : ∀ z ∈ u_ws RX0 TX0 6, z ∈ wsX0_foundAloneBy := by decide +kernel
theorem hin_X0_foundBy_RX0 : ∀ z ∈ u_ws RX0 TX0 6, z ∈ wsX0_foundBy := by decide +kernel
theorem hin_X0_isKept_RX0 : ∀ z ∈ u_ws RX0 TX0 6, z ∈ wsX0_isKept := by decide +kernel
theorem hin_X0_mostEnergetic_RX0 : ∀ z ∈ u_ws RX0 TX0 6, z ∈ wsX0_mostEnergetic := by decide +kernel
theorem hin_X0_note_RX0 : ∀ z ∈ u_ws RX0 TX0 6, z ∈ wsX0_note := by decide +kernel
theorem hin_X0_note_RX4 : ∀ z ∈ u_ws RX4 TX4 4, z ∈ wsX0_note := by decide +kernel
theorem hin_X0_numberOf_RX0 : ∀ z ∈ u_ws RX0 TX0 6, z ∈ wsX0_numberOf := by decide +kernel
theorem hin_X0_settle_RX0 : ∀ z ∈ u_ws RX0 TX0 6, z ∈ wsX0_settle := by decide +kernel
theorem hin_X0_wholeEnergy_RX0 : ∀ z ∈ u_ws RX0 TX0 6, z ∈ wsX0_wholeEnergy := by decide +kernel
theorem ks_sub1 (a : Int32) : a + 1 - 1 = a := by
  apply Int32.toBitVec_inj.mp
  rw [Int32.toBitVec_sub, Int32.toBitVec_add]
  exact BitVec.add_sub_cancel _ _
theorem ks_be_no {F : Nat → Int64} {S : Int64} {mu : Nat → Nat} {k : Nat} (h : hasB S k = false) : ks_be F S mu (k + 1) = ks_be F S mu k := by
  show (if hasB S k && decide ((ks_be F S mu k).2 < ks_en F S mu k + 1) then _ else _) = _
  rw [h]; rfl
theorem ks_m1T {b : Nat} (hb : b < 1000) : (nI b - 1).toInt = (b : Int) - 1 := pk_sub_toInt (a := b) (b := 1) (by omega) (by decide)
theorem ks_be_le0 {F : Nat → Int64} {S : Int64} {mu : Nat → Nat} {k : Nat} (h : nI (ks_en F S mu k) ≤ nI (ks_be F S mu k).2 - 1) : ks_be F S mu (k + 1) = ks_be F S mu k := by
  have h1 := ks_be_le F S mu k
  have h2 := ks_en_le F S mu k
  rw [Int32.le_iff_toInt_le, ks_m1T (by omega), nI_toInt (by omega)] at h
  show (if hasB S k && decide ((ks_be F S mu k).2 < ks_en F S mu k + 1) then _ else _) = _
  rw [decide_eq_false (by omega), Bool.and_false]
  rfl
theorem ks_be_yes {F : Nat → Int64} {S : Int64} {mu : Nat → Nat} {k : Nat} (h0 : hasB S k = true) (h : ¬ nI (ks_en F S mu k) ≤ nI (ks_be F S mu k).2 - 1) : ks_be F S mu (k + 1) = (k + 1, ks_en F S mu k + 1) := by
  have h1 := ks_be_le F S mu k
  have h2 := ks_en_le F S mu k
  rw [Int32.le_iff_toInt_le, ks_m1T (by omega), nI_toInt (by omega)] at h
  show (if hasB S k && decide ((ks_be F S mu k).2 < ks_en F S mu k + 1) then _ else _) = _
  rw [decide_eq_true (by omega), h0]
  rfl
set_option maxHeartbeats 4000000 in
set_option maxRecDepth 100000 in
theorem k_isKept (l : Launch) {D : va_G} {cI cL cZ cQ : ClassId} (ha : Nat) (a0 : Nat) (a1 : Nat) (a2 : Nat) (a3 : Nat) (n : Nat) (S : Int64) (k : Nat) (hk : k < 64) : PM l yX0_isKept wsX0_isKept ({ frames := 1, cells := 0, slots := 0, locals := 22 } : Room) D (gTys cI cL cZ cQ) [.ref ha, .int (nI k)] [(ha, .inr (0, [.ref a0, .ref a1, .ref a2, .ref a3, .int (nI n), .long S]))] (fun (_ : Unit) => True) (fun (_ : Unit) => some (.int (bI (hasB S k)))) := by
  refine PM.ofG cX0_isKept 2 (some .boolean) (by decide +kernel) rfl (Nat.le_of_ble_eq_true rfl) ?_
  intro p e s m below meth c B hr hlocks hname hK hN
  refine g_aload_n B dX0_isKept_0 0 rfl ?_
  refine g_get (C := RX0) (T := TX0) (N := 6) (ci := 0) B hK hin_X0_isKept_RX0 0 rfl rfl 5 (by decide) (List.mem_of_getElem? (i := 1) rfl) rfl (v := .long S) rfl dX0_isKept_1 ?_
  refine g_iload_n B dX0_isKept_4 1 rfl ?_
  refine g_callP (g_runSN B hN (PM.met (k_contains l (D := D) (cI := cI) (cL := cL) (cZ := cZ) (cQ := cQ) S k (by first | assumption | omega))) (gPp.pre (av := [.long S, .int (nI k)]) (wc := []) hK hN [] rfl (by decide)) gX0_isKept_X5_contains_n29 (List.mem_of_getElem? (i := 3) rfl) (List.mem_of_getElem? (i := 2) rfl) 3 rfl rfl kd_X5_contains ⟨by decide, by decide⟩ (st := []) rfl (Nat.le_of_ble_eq_true rfl) dX0_isKept_5 ⟨by decide, by decide⟩) (fun u hu => ?_)
  exact g_iret_p B hr rfl hlocks () (rfl) (trivial) dX0_isKept_8

set_option maxHeartbeats 4000000 in
set_option maxRecDepth 100000 in
theorem k_allKnown (l : Launch) {D : va_G} {cI cL cZ cQ : ClassId} (ha : Nat) (a0 : Nat) (a1 : Nat) (a2 : Nat) (a3 : Nat) (n : Nat) (S : Int64) (hn : n ≤ 40) : PM l yX0_allKnown wsX0_allKnown ({ frames := 1, cells := 0, slots := 0, locals := 20 } : Room) D (gTys cI cL cZ cQ) [.ref ha] [(ha, .inr (0, [.ref a0, .ref a1, .ref a2, .ref a3, .int (nI n), .long S]))] (fun (_ : Unit) => True) (fun (_ : Unit) => some (.long (lShl 1 (nI n) - 1))) := by
  refine PM.ofG cX0_allKnown 1 (some .long) (by decide +kernel) rfl (Nat.le_of_ble_eq_true rfl) ?_
  intro p e s m below meth c B hr hlocks hname hK hN
  refine g_aload_n B dX0_allKnown_0 0 rfl ?_
  refine g_get (C := RX0) (T := TX0) (N := 6) (ci := 0) B hK hin_X0_allKnown_RX0 0 rfl rfl 4 (by decide) (List.mem_of_getElem? (i := 1) rfl) rfl (v := .int (nI n)) rfl dX0_allKnown_1 ?_
  refine g_callP (g_runSN B hN (PM.met (k_bit l (D := D) (cI := cI) (cL := cL) (cZ := cZ) (cQ := cQ) n (by first | assumption | omega))) (gPp.pre (av := [.int (nI n)]) (wc := []) hK hN [] rfl (by decide)) gX0_allKnown_X5_bit_n37 (List.mem_of_getElem? (i := 3) rfl) (List.mem_of_getElem? (i := 2) rfl) 4 rfl rfl kd_X5_bit ⟨by decide, by decide⟩ (st := []) rfl (Nat.le_of_ble_eq_true rfl) dX0_allKnown_4 ⟨by decide, by decide⟩) (fun u hu => ?_)
  refine g_lconst (v := (1 : Int64)) B dX0_allKnown_7 rfl ?_
  refine g_lsub (v := ((lShl 1 (nI n)) - (1 : Int64))) B dX0_allKnown_8 (rfl) ?_
  exact g_lret_p B hr hlocks () (rfl) (trivial) dX0_allKnown_9

set_option maxHeartbeats 4000000 in
set_option maxRecDepth 100000 in
theorem k_numberOf (l : Launch) {D : va_G} {cI cL cZ cQ : ClassId} (ha : Nat) (a0 : Nat) (a1 : Nat) (a2 : Nat) (a3 : Nat) (n : Nat) (S : Int64) (f0 : Nat → Int32) (t : Nat → Nat) (ca : Nat) (hn : n ≤ 40) (hca : ca < 10000) (h0 : ∀ i, i < n → f0 i = nI (t i) ∧ t i < 10000) : PM l yX0_numberOf wsX0_numberOf ({ frames := 0, cells := 0, slots := 0, locals := 0 } : Room) D (gTys cI cL cZ cQ) [.ref ha, .int (nI ca)] [(ha, .inr (0, [.ref a0, .ref a1, .ref a2, .ref a3, .int (nI n), .long S])), (a0, .inl (cI, 41, .inl f0))] (fun (_ : Unit) => True) (fun (_ : Unit) => some (.int (ks_oI n (ks_no t n ca)))) := by
  refine PM.ofG cX0_numberOf 3 (some .int) (by decide +kernel) rfl (Nat.le_of_ble_eq_true rfl) ?_
  intro p e s m below meth c B hr hlocks hname hK hN
  refine g_iconst (v := (0 : Int32)) B dX0_numberOf_0 (by decide) ?_
  refine g_istore_n (lv' := [(0, .ref ha), (1, .int (nI ca)), (2, .int (0 : Int32))]) B dX0_numberOf_1 rfl (by decide) [1, 2, 0] rfl ?_
  refine g_loop (σ := Nat) (fun x9 => x9 ≤ n ∧ ∀ j, j < x9 → t j ≠ ca) (fun x9 => 41 - x9) (fun x9 => 0) (fun x9 => 0) (fun x9 => [(ha, .inr (0, [.ref a0, .ref a1, .ref a2, .ref a3, .int (nI n), .long S])), (a0, .inl (cI, 41, .inl f0))]) (fun x9 => [(0, .ref ha), (1, .int (nI ca)), (2, .int (nI x9))]) (fun x9 hI ih2 => ?_) 0 (⟨by omega, fun j h => absurd h (Nat.not_lt_zero j)⟩) rfl rfl rfl rfl
  obtain ⟨k, e9⟩ : ∃ z, z = x9 := ⟨_, rfl⟩; subst e9
  try dsimp only at hI ih2 ⊢
  obtain ⟨i1, i2⟩ := hI
  refine g_iload_n B dX0_numberOf_2 2 rfl ?_
  refine g_aload_n B dX0_numberOf_3 0 rfl ?_
  refine g_get (C := RX0) (T := TX0) (N := 6) (ci := 0) B hK hin_X0_numberOf_RX0 0 rfl rfl 4 (by decide) (List.mem_of_getElem? (i := 1) rfl) rfl (v := .int (nI n)) rfl dX0_numberOf_4 ?_
  refine g_ncmp_ge (tgt := 34) B k n rfl rfl (by omega) (by omega) dX0_numberOf_7 (by decide) (fun c1 => ?_) (fun c1 => ?_)
  · refine g_iconst (v := (-1 : Int32)) B dX0_numberOf_34 (by decide) ?_
    exact g_iret_p B hr rfl hlocks () (by rw [ks_no_none (fun j hj => i2 j (by omega))]; unfold ks_oI; rw [if_neg (by omega)]) (trivial) dX0_numberOf_35
  · refine g_iload_n B dX0_numberOf_10 2 rfl ?_
    refine g_bipush (v := (40 : Int32)) B dX0_numberOf_11 (by decide) ?_
    refine g_ncmp_ge (tgt := 34) B k 40 rfl rfl (by omega) (by omega) dX0_numberOf_13 (by decide) (fun c2 => ?_) (fun c2 => ?_)
    · exfalso; omega
    refine g_aload_n B dX0_numberOf_16 0 rfl ?_
    refine g_get (C := RX0) (T := TX0) (N := 6) (ci := 0) B hK hin_X0_numberOf_RX0 0 rfl rfl 0 (by decide) (List.mem_of_getElem? (i := 2) rfl) rfl (v := .ref a0) rfl dX0_numberOf_17 ?_
    have hk0 := (h0 k (by omega)).2
    refine g_iload_n B dX0_numberOf_20 2 rfl ?_
    refine g_iald B hK 1 0 rfl rfl k rfl (by omega) (by omega) (v := nI (t k)) ((h0 k (by omega)).1) dX0_numberOf_21 ?_
    refine g_iload_n B dX0_numberOf_22 1 rfl ?_
    refine g_ncmp_ne (tgt := 28) B (t k) ca rfl rfl (by omega) (by omega) dX0_numberOf_23 (by decide) (fun c3 => ?_) (fun c3 => ?_)
    · refine g_iinc (lv' := [(0, .ref ha), (1, .int (nI ca)), (2, .int (nI (k + 1)))]) B dX0_numberOf_28 2 rfl (nI_1 k) (by decide) [1, 2, 0] rfl ?_
      refine g_goto (tgt := 2) B dX0_numberOf_31 (by decide) ?_
      exact ih2 (k + 1) (⟨by omega, lt_s i2 c3⟩) (by (try dsimp only); omega)
    · refine g_iload_n B dX0_numberOf_26 2 rfl ?_
      exact g_iret_p B hr rfl hlocks () (by rw [ks_no_at (by omega) i2 c3]; unfold ks_oI; rw [if_pos (by omega)]) (trivial) dX0_numberOf_27

set_option maxHeartbeats 4000000 in
set_option maxRecDepth 100000 in
theorem k_note (l : Launch) {D : va_G} {cI cL cZ cQ : ClassId} (ha : Nat) (a0 : Nat) (a1 : Nat) (a2 : Nat) (a3 : Nat) (n : Nat) (S : Int64) (f1 : Nat → Int32) (F : Nat → Int64) (ht : Nat) (t0 : Nat) (ts : Int32) (tr : Int32) (tf : Int64) (k : Nat) (hk : k < 41) : WM l yX0_note wsX0_note ({ frames := 0, cells := 0, slots := 0, locals := 0 } : Room) D (gTys cI cL cZ cQ) [.ref ha, .int (nI k), .ref ht] [(ha, .inr (0, [.ref a0, .ref a1, .ref a2, .ref a3, .int (nI n), .long S])), (a1, .inl (cI, 41, .inl f1)), (a3, .inl (cL, 41, .inr (.inl F))), (ht, .inr (4, [.ref t0, .int ts, .int tr, .long tf]))] (fun (_ : Unit) => True) (fun (_ : Unit) => none) (fun (_ : Unit) => [(ha, .inr (0, [.ref a0, .ref a1, .ref a2, .ref a3, .int (nI n), .long S])), (a1, .inl (cI, 41, .inl (upd f1 k tr))), (a3, .inl (cL, 41, .inr (.inl (vp_updL F k tf)))), (ht, .inr (4, [.ref t0, .int ts, .int tr, .long tf]))]) := by
  refine WM.ofG cX0_note 3 none (by decide +kernel) rfl (Nat.le_of_ble_eq_true rfl) ?_
  intro p e s m below meth c A hA B hr hlocks hname hK hN
  refine g_aload_n B dX0_note_0 0 rfl ?_
  refine g_get (C := RX0) (T := TX0) (N := 6) (ci := 0) B hK hin_X0_note_RX0 0 rfl rfl 1 (by decide) (List.mem_of_getElem? (i := 1) rfl) rfl (v := .ref a1) rfl dX0_note_1 ?_
  refine g_iload_n B dX0_note_4 1 rfl ?_
  refine g_aload_n B dX0_note_5 2 rfl ?_
  refine g_getN (C := RX4) (T := TX4) (N := 4) (ci := 4) B hK hin_X0_note_RX4 3 rfl rfl 2 (by decide) hN 15 rfl rfl (v := .int tr) rfl dX0_note_6 ?_
  refine g_iast B hK 1 0 rfl rfl k rfl (by omega) (by omega) (f2 := (upd f1 k tr)) (rfl) (w2 := [(ha, .inr (0, [.ref a0, .ref a1, .ref a2, .ref a3, .int (nI n), .long S])), (a1, .inl (cI, 41, .inl (upd f1 k tr))), (a3, .inl (cL, 41, .inr (.inl F))), (ht, .inr (4, [.ref t0, .int ts, .int tr, .long tf]))]) rfl (fun _ h => h) dX0_note_9 ?_
  refine g_aload_n B dX0_note_10 0 rfl ?_
  refine g_get (C := RX0) (T := TX0) (N := 6) (ci := 0) B hK hin_X0_note_RX0 0 rfl rfl 3 (by decide) (List.mem_of_getElem? (i := 2) rfl) rfl (v := .ref a3) rfl dX0_note_11 ?_
  refine g_iload_n B dX0_note_14 1 rfl ?_
  refine g_aload_n B dX0_note_15 2 rfl ?_
  refine g_getN (C := RX4) (T := TX4) (N := 4) (ci := 4) B hK hin_X0_note_RX4 3 rfl rfl 3 (by decide) hN 16 rfl rfl (v := .long tf) rfl dX0_note_16 ?_
  refine g_last B hK 2 1 rfl rfl k rfl (by omega) (by omega) (f2 := (vp_updL F k tf)) (rfl) (w2 := [(ha, .inr (0, [.ref a0, .ref a1, .ref a2, .ref a3, .int (nI n), .long S])), (a1, .inl (cI, 41, .inl (upd f1 k tr))), (a3, .inl (cL, 41, .inr (.inl (vp_updL F k tf)))), (ht, .inr (4, [.ref t0, .int ts, .int tr, .long tf]))]) rfl (fun _ h => h) dX0_note_19 ?_
  exact g_vret_w B hr hlocks () (rfl) (trivial) [0, 1, 2, 3] (by decide) rfl dX0_note_20

set_option maxHeartbeats 4000000 in
set_option maxRecDepth 100000 in
theorem k_foundBy (l : Launch) {D : va_G} {cI cL cZ cQ : ClassId} (ha : Nat) (a0 : Nat) (a1 : Nat) (a2 : Nat) (a3 : Nat) (n : Nat) (S : Int64) (F : Nat → Int64) (T : Int64)  : PM l yX0_foundBy wsX0_foundBy ({ frames := 1, cells := 0, slots := 0, locals := 22 } : Room) D (gTys cI cL cZ cQ) [.ref ha, .long T] [(ha, .inr (0, [.ref a0, .ref a1, .ref a2, .ref a3, .int (nI n), .long S])), (a3, .inl (cL, 41, .inr (.inl F)))] (fun (_ : Unit) => True) (fun (_ : Unit) => some (.long (ks_fb F T 41))) := by
  refine PM.ofG cX0_foundBy 6 (some .long) (by decide +kernel) rfl (Nat.le_of_ble_eq_true rfl) ?_
  intro p e s m below meth c B hr hlocks hname hK hN
  refine g_lconst (v := (0 : Int64)) B dX0_foundBy_0 rfl ?_
  refine g_lstore_n (lv' := [(0, .ref ha), (1, .long T), (3, .long (0 : Int64))]) B dX0_foundBy_1 rfl (by decide) [1, 2, 0] rfl ?_
  refine g_iconst (v := (0 : Int32)) B dX0_foundBy_2 (by decide) ?_
  refine g_istore (lv' := [(0, .ref ha), (1, .long T), (3, .long (0 : Int64)), (5, .int (0 : Int32))]) B dX0_foundBy_3 (by decide) [1, 2, 3, 0] rfl ?_
  refine g_loop (σ := Nat) (fun x9 => x9 ≤ 41) (fun x9 => 42 - x9) (fun x9 => 0) (fun x9 => 0) (fun x9 => [(ha, .inr (0, [.ref a0, .ref a1, .ref a2, .ref a3, .int (nI n), .long S])), (a3, .inl (cL, 41, .inr (.inl F)))]) (fun x9 => [(0, .ref ha), (1, .long T), (3, .long (ks_fb F T x9)), (5, .int (nI x9))]) (fun x9 hI ih5 => ?_) 0 (by (try dsimp only); omega) rfl rfl rfl rfl
  obtain ⟨k, e9⟩ : ∃ z, z = x9 := ⟨_, rfl⟩; subst e9
  try dsimp only at hI ih5 ⊢
  refine g_iload B dX0_foundBy_5 3 rfl ?_
  refine g_bipush (v := (41 : Int32)) B dX0_foundBy_7 (by decide) ?_
  refine g_ncmp_ge (tgt := 46) B k 41 rfl rfl (by omega) (by omega) dX0_foundBy_9 (by decide) (fun c1 => ?_) (fun c1 => ?_)
  · refine g_lload_n B dX0_foundBy_46 2 rfl ?_
    have hz : ks_fb F T 41 = ks_fb F T k := by rw [show k = 41 by omega]
    refine g_eql (y := ks_fb F T 41) hz.symm ?_
    exact g_lret_p B hr hlocks () (rfl) (trivial) dX0_foundBy_47
  · refine g_lload_n B dX0_foundBy_12 1 rfl ?_
    refine g_iload B dX0_foundBy_13 3 rfl ?_
    refine g_lushr (v := lShr T (nI k)) B dX0_foundBy_15 (rfl) ?_
    refine g_lconst (v := (0 : Int64)) B dX0_foundBy_16 rfl ?_
    refine g_lcmp (v := (lg_cmp (lShr T (nI k)) (0 : Int64))) B dX0_foundBy_17 rfl ?_
    refine g_lif_eq (tgt := 46) B dX0_foundBy_18 (by decide) (fun c2 => ?_) (fun c2 => ?_)
    · refine g_lload_n B dX0_foundBy_46 2 rfl ?_
      have hz : ks_fb F T 41 = ks_fb F T k := by have := ks_fb_stop (F := F) (S := T) (k := k) (fun j h1 h2 => hb_shr (by omega) c2 h1 (by omega)) (41 - k) (by omega); rwa [show k + (41 - k) = 41 by omega] at this
      refine g_eql (y := ks_fb F T 41) hz.symm ?_
      exact g_lret_p B hr hlocks () (rfl) (trivial) dX0_foundBy_47
    · refine g_lload_n B dX0_foundBy_21 1 rfl ?_
      refine g_iload B dX0_foundBy_22 3 rfl ?_
      refine g_callP (g_runSN B hN (PM.met (k_contains l (D := D) (cI := cI) (cL := cL) (cZ := cZ) (cQ := cQ) T k (by first | assumption | omega))) (gPp.pre (av := [.long T, .int (nI k)]) (wc := []) hK hN [] rfl (by decide)) gX0_foundBy_X5_contains_n29 (List.mem_of_getElem? (i := 3) rfl) (List.mem_of_getElem? (i := 2) rfl) 3 rfl rfl kd_X5_contains ⟨by decide, by decide⟩ (st := []) rfl (Nat.le_of_ble_eq_true rfl) dX0_foundBy_24 ⟨by decide, by decide⟩) (fun u hu => ?_)
      refine g_bif_eq (tgt := 40) B dX0_foundBy_27 (by decide) (fun c4 => ?_) (fun c4 => ?_)
      · refine g_eqlv (lv2 := [(0, .ref ha), (1, .long T), (3, .long (ks_fb F T (k + 1))), (5, .int (nI k))]) (by rw [show ks_fb F T (k + 1) = (if hasB T k then ks_fb F T k ||| F k else ks_fb F T k) from rfl, c4]; rfl) ?_
        refine g_iinc (lv' := [(0, .ref ha), (1, .long T), (3, .long (ks_fb F T (k + 1))), (5, .int (nI (k + 1)))]) B dX0_foundBy_40 3 rfl (nI_1 k) (by decide) [1, 2, 3, 0] rfl ?_
        refine g_goto (tgt := 5) B dX0_foundBy_43 (by decide) ?_
        exact ih5 (k + 1) (by (try dsimp only); omega) (by (try dsimp only); omega)
      · refine g_lload_n B dX0_foundBy_30 2 rfl ?_
        refine g_aload_n B dX0_foundBy_31 0 rfl ?_
        refine g_get (C := RX0) (T := TX0) (N := 6) (ci := 0) B hK hin_X0_foundBy_RX0 0 rfl rfl 3 (by decide) (List.mem_of_getElem? (i := 1) rfl) rfl (v := .ref a3) rfl dX0_foundBy_32 ?_
        refine g_iload B dX0_foundBy_35 3 rfl ?_
        refine g_lald B hK 1 1 rfl rfl k rfl (by omega) (by omega) (v := (F k)) rfl dX0_foundBy_37 ?_
        refine g_lor (v := ((ks_fb F T k) ||| (F k))) B dX0_foundBy_38 (rfl) ?_
        refine g_lstore_n (lv' := [(0, .ref ha), (1, .long T), (3, .long ((ks_fb F T k) ||| (F k))), (5, .int (nI k))]) B dX0_foundBy_39 rfl (by decide) [1, 2, 0, 3] rfl ?_
        refine g_eqlv (lv2 := [(0, .ref ha), (1, .long T), (3, .long (ks_fb F T (k + 1))), (5, .int (nI k))]) (by rw [show ks_fb F T (k + 1) = (if hasB T k then ks_fb F T k ||| F k else ks_fb F T k) from rfl, c4]; rfl) ?_
        refine g_iinc (lv' := [(0, .ref ha), (1, .long T), (3, .long (ks_fb F T (k + 1))), (5, .int (nI (k + 1)))]) B dX0_foundBy_40 3 rfl (nI_1 k) (by decide) [1, 2, 3, 0] rfl ?_
        refine g_goto (tgt := 5) B dX0_foundBy_43 (by decide) ?_
        exact ih5 (k + 1) (by (try dsimp only); omega) (by (try dsimp only); omega)

set_option maxHeartbeats 4000000 in
set_option maxRecDepth 100000 in
theorem k_foundAloneBy (l : Launch) {D : va_G} {cI cL cZ cQ : ClassId} (ha : Nat) (a0 : Nat) (a1 : Nat) (a2 : Nat) (a3 : Nat) (n : Nat) (S : Int64) (F : Nat → Int64) (T : Int64) (k : Nat) (hk : k < 41) : PM l yX0_foundAloneBy wsX0_foundAloneBy ({ frames := 2, cells := 0, slots := 0, locals := 47 } : Room) D (gTys cI cL cZ cQ) [.ref ha, .int (nI k), .long T] [(ha, .inr (0, [.ref a0, .ref a1, .ref a2, .ref a3, .int (nI n), .long S])), (a3, .inl (cL, 41, .inr (.inl F)))] (fun (_ : Unit) => True) (fun (_ : Unit) => some (.long (ks_al F k T))) := by
  refine PM.ofG cX0_foundAloneBy 4 (some .long) (by decide +kernel) rfl (Nat.le_of_ble_eq_true rfl) ?_
  intro p e s m below meth c B hr hlocks hname hK hN
  refine g_aload_n B dX0_foundAloneBy_0 0 rfl ?_
  refine g_get (C := RX0) (T := TX0) (N := 6) (ci := 0) B hK hin_X0_foundAloneBy_RX0 0 rfl rfl 3 (by decide) (List.mem_of_getElem? (i := 1) rfl) rfl (v := .ref a3) rfl dX0_foundAloneBy_1 ?_
  refine g_iload_n B dX0_foundAloneBy_4 1 rfl ?_
  refine g_lald B hK 1 1 rfl rfl k rfl (by omega) (by omega) (v := (F k)) rfl dX0_foundAloneBy_5 ?_
  refine g_aload_n B dX0_foundAloneBy_6 0 rfl ?_
  refine g_lload_n B dX0_foundAloneBy_7 2 rfl ?_
  refine g_iload_n B dX0_foundAloneBy_8 1 rfl ?_
  refine g_callP (g_runSN B hN (PM.met (k_bit l (D := D) (cI := cI) (cL := cL) (cZ := cZ) (cQ := cQ) k (by first | assumption | omega))) (gPp.pre (av := [.int (nI k)]) (wc := []) hK hN [] rfl (by decide)) gX0_foundAloneBy_X5_bit_n37 (List.mem_of_getElem? (i := 4) rfl) (List.mem_of_getElem? (i := 3) rfl) 4 rfl rfl kd_X5_bit ⟨by decide, by decide⟩ (st := [.long T, .ref ha, .long (F k)]) rfl (Nat.le_of_ble_eq_true rfl) dX0_foundAloneBy_9 ⟨by decide, by decide⟩) (fun u hu => ?_)
  refine g_ldc2 (v := (-1 : Int64)) B dX0_foundAloneBy_12 (List.mem_of_getElem? (i := 2) rfl) ?_
  refine g_lxor (v := ((lShl 1 (nI k)) ^^^ (-1 : Int64))) B dX0_foundAloneBy_15 (rfl) ?_
  refine g_land (v := (T &&& ((lShl 1 (nI k)) ^^^ (-1 : Int64)))) B dX0_foundAloneBy_16 (rfl) ?_
  refine g_callP (g_runV (q0 := 0) (ci := 0) B hK rfl rfl (PM.met (k_foundBy l (D := D) (cI := cI) (cL := cL) (cZ := cZ) (cQ := cQ) ha a0 a1 a2 a3 n S F (T &&& ((lShl 1 (nI k)) ^^^ (-1 : Int64))) )) (gPp.pre (av := [.ref ha, .long (T &&& ((lShl 1 (nI k)) ^^^ (-1 : Int64)))]) (wc := [(ha, .inr (0, [.ref a0, .ref a1, .ref a2, .ref a3, .int (nI n), .long S])), (a3, .inl (cL, 41, .inr (.inl F)))]) hK hN [0, 1] rfl (by decide)) gX0_foundAloneBy_X0_foundBy rfl rfl kd_X0_foundBy ⟨by decide, by decide⟩ (st := [.long (F k)]) rfl (Nat.le_of_ble_eq_true rfl) dX0_foundAloneBy_17 ⟨by decide, by decide⟩) (fun u hu => ?_)
  refine g_ldc2 (v := (-1 : Int64)) B dX0_foundAloneBy_20 (List.mem_of_getElem? (i := 2) rfl) ?_
  refine g_lxor (v := ((ks_fb F (T &&& ((lShl 1 (nI k)) ^^^ (-1 : Int64))) 41) ^^^ (-1 : Int64))) B dX0_foundAloneBy_23 (rfl) ?_
  refine g_land (v := ((F k) &&& ((ks_fb F (T &&& ((lShl 1 (nI k)) ^^^ (-1 : Int64))) 41) ^^^ (-1 : Int64)))) B dX0_foundAloneBy_24 (rfl) ?_
  exact g_lret_p B hr hlocks () (rfl) (trivial) dX0_foundAloneBy_25

set_option maxHeartbeats 4000000 in
set_option maxRecDepth 100000 in
theorem k_coverersOf (l : Launch) {D : va_G} {cI cL cZ cQ : ClassId} (ha : Nat) (a0 : Nat) (a1 : Nat) (a2 : Nat) (a3 : Nat) (n : Nat) (S : Int64) (F : Nat → Int64) (ed : Nat) (hn : n ≤ 40) (he : ed < 24) : PM l yX0_coverersOf wsX0_coverersOf ({ frames := 1, cells := 0, slots := 0, locals := 22 } : Room) D (gTys cI cL cZ cQ) [.ref ha, .int (nI ed)] [(ha, .inr (0, [.ref a0, .ref a1, .ref a2, .ref a3, .int (nI n), .long S])), (a3, .inl (cL, 41, .inr (.inl F)))] (fun (_ : Unit) => True) (fun (_ : Unit) => some (.long (ks_cv F ed n))) := by
  refine PM.ofG cX0_coverersOf 5 (some .long) (by decide +kernel) rfl (Nat.le_of_ble_eq_true rfl) ?_
  intro p e s m below meth c B hr hlocks hname hK hN
  refine g_lconst (v := (0 : Int64)) B dX0_coverersOf_0 rfl ?_
  refine g_lstore_n (lv' := [(0, .ref ha), (1, .int (nI ed)), (2, .long (0 : Int64))]) B dX0_coverersOf_1 rfl (by decide) [1, 2, 0] rfl ?_
  refine g_iconst (v := (0 : Int32)) B dX0_coverersOf_2 (by decide) ?_
  refine g_istore (lv' := [(0, .ref ha), (1, .int (nI ed)), (2, .long (0 : Int64)), (4, .int (0 : Int32))]) B dX0_coverersOf_3 (by decide) [1, 2, 3, 0] rfl ?_
  refine g_loop (σ := Nat) (fun x9 => x9 ≤ n) (fun x9 => 41 - x9) (fun x9 => 0) (fun x9 => 0) (fun x9 => [(ha, .inr (0, [.ref a0, .ref a1, .ref a2, .ref a3, .int (nI n), .long S])), (a3, .inl (cL, 41, .inr (.inl F)))]) (fun x9 => [(0, .ref ha), (1, .int (nI ed)), (2, .long (ks_cv F ed x9)), (4, .int (nI x9))]) (fun x9 hI ih5 => ?_) 0 (by (try dsimp only); omega) rfl rfl rfl rfl
  obtain ⟨k, e9⟩ : ∃ z, z = x9 := ⟨_, rfl⟩; subst e9
  try dsimp only at hI ih5 ⊢
  refine g_iload B dX0_coverersOf_5 3 rfl ?_
  refine g_aload_n B dX0_coverersOf_7 0 rfl ?_
  refine g_get (C := RX0) (T := TX0) (N := 6) (ci := 0) B hK hin_X0_coverersOf_RX0 0 rfl rfl 4 (by decide) (List.mem_of_getElem? (i := 1) rfl) rfl (v := .int (nI n)) rfl dX0_coverersOf_8 ?_
  refine g_ncmp_ge (tgt := 49) B k n rfl rfl (by omega) (by omega) dX0_coverersOf_11 (by decide) (fun c1 => ?_) (fun c1 => ?_)
  · refine g_lload_n B dX0_coverersOf_49 2 rfl ?_
    obtain rfl : k = n := by omega
    exact g_lret_p B hr hlocks () (by first | rfl | (subst_vars; rfl)) (trivial) dX0_coverersOf_50
  · refine g_iload B dX0_coverersOf_14 3 rfl ?_
    refine g_bipush (v := (40 : Int32)) B dX0_coverersOf_16 (by decide) ?_
    refine g_ncmp_ge (tgt := 49) B k 40 rfl rfl (by omega) (by omega) dX0_coverersOf_18 (by decide) (fun c2 => ?_) (fun c2 => ?_)
    · exfalso; omega
    refine g_aload_n B dX0_coverersOf_21 0 rfl ?_
    refine g_get (C := RX0) (T := TX0) (N := 6) (ci := 0) B hK hin_X0_coverersOf_RX0 0 rfl rfl 3 (by decide) (List.mem_of_getElem? (i := 2) rfl) rfl (v := .ref a3) rfl dX0_coverersOf_22 ?_
    refine g_iload B dX0_coverersOf_25 3 rfl ?_
    refine g_lald B hK 1 1 rfl rfl k rfl (by omega) (by omega) (v := (F k)) rfl dX0_coverersOf_27 ?_
    refine g_iload_n B dX0_coverersOf_28 1 rfl ?_
    refine g_callP (g_runSN B hN (PM.met (k_contains l (D := D) (cI := cI) (cL := cL) (cZ := cZ) (cQ := cQ) (F k) ed (by first | assumption | omega))) (gPp.pre (av := [.long (F k), .int (nI ed)]) (wc := []) hK hN [] rfl (by decide)) gX0_coverersOf_X5_contains_n29 (List.mem_of_getElem? (i := 4) rfl) (List.mem_of_getElem? (i := 3) rfl) 3 rfl rfl kd_X5_contains ⟨by decide, by decide⟩ (st := []) rfl (Nat.le_of_ble_eq_true rfl) dX0_coverersOf_29 ⟨by decide, by decide⟩) (fun u hu => ?_)
    refine g_bif_eq (tgt := 43) B dX0_coverersOf_32 (by decide) (fun c4 => ?_) (fun c4 => ?_)
    · refine g_eqlv (lv2 := [(0, .ref ha), (1, .int (nI ed)), (2, .long (ks_cv F ed (k + 1))), (4, .int (nI k))]) (by rw [show ks_cv F ed (k + 1) = (if hasB (F k) ed then ks_cv F ed k ||| lShl 1 (nI k) else ks_cv F ed k) from rfl, c4]; rfl) ?_
      refine g_iinc (lv' := [(0, .ref ha), (1, .int (nI ed)), (2, .long (ks_cv F ed (k + 1))), (4, .int (nI (k + 1)))]) B dX0_coverersOf_43 3 rfl (nI_1 k) (by decide) [1, 2, 3, 0] rfl ?_
      refine g_goto (tgt := 5) B dX0_coverersOf_46 (by decide) ?_
      exact ih5 (k + 1) (by (try dsimp only); omega) (by (try dsimp only); omega)
    · refine g_lload_n B dX0_coverersOf_35 2 rfl ?_
      refine g_iload B dX0_coverersOf_36 3 rfl ?_
      refine g_callP (g_runSN B hN (PM.met (k_bit l (D := D) (cI := cI) (cL := cL) (cZ := cZ) (cQ := cQ) k (by first | assumption | omega))) (gPp.pre (av := [.int (nI k)]) (wc := []) hK hN [] rfl (by decide)) gX0_coverersOf_X5_bit_n37 (List.mem_of_getElem? (i := 4) rfl) (List.mem_of_getElem? (i := 6) rfl) 4 rfl rfl kd_X5_bit ⟨by decide, by decide⟩ (st := [.long (ks_cv F ed k)]) rfl (Nat.le_of_ble_eq_true rfl) dX0_coverersOf_38 ⟨by decide, by decide⟩) (fun u hu => ?_)
      refine g_lor (v := ((ks_cv F ed k) ||| (lShl 1 (nI k)))) B dX0_coverersOf_41 (rfl) ?_
      refine g_lstore_n (lv' := [(0, .ref ha), (1, .int (nI ed)), (2, .long ((ks_cv F ed k) ||| (lShl 1 (nI k)))), (4, .int (nI k))]) B dX0_coverersOf_42 rfl (by decide) [1, 2, 0, 3] rfl ?_
      refine g_eqlv (lv2 := [(0, .ref ha), (1, .int (nI ed)), (2, .long (ks_cv F ed (k + 1))), (4, .int (nI k))]) (by rw [show ks_cv F ed (k + 1) = (if hasB (F k) ed then ks_cv F ed k ||| lShl 1 (nI k) else ks_cv F ed k) from rfl, c4]; rfl) ?_
      refine g_iinc (lv' := [(0, .ref ha), (1, .int (nI ed)), (2, .long (ks_cv F ed (k + 1))), (4, .int (nI (k + 1)))]) B dX0_coverersOf_43 3 rfl (nI_1 k) (by decide) [1, 2, 3, 0] rfl ?_
      refine g_goto (tgt := 5) B dX0_coverersOf_46 (by decide) ?_
      exact ih5 (k + 1) (by (try dsimp only); omega) (by (try dsimp only); omega)

set_option maxHeartbeats 4000000 in
set_option maxRecDepth 100000 in
theorem k_energyOf (l : Launch) {D : va_G} {cI cL cZ cQ : ClassId} (ha : Nat) (a0 : Nat) (a1 : Nat) (a2 : Nat) (a3 : Nat) (n : Nat) (S : Int64) (F : Nat → Int64) (mu : Nat → Nat) (k : Nat) (hk : k < 41) (hmu : ∀ i, mu i < 1000) : PM l yX0_energyOf wsX0_energyOf ({ frames := 3, cells := 0, slots := 0, locals := 70 } : Room) D (gTys cI cL cZ cQ) [.ref ha, .int (nI k)] [(ha, .inr (0, [.ref a0, .ref a1, .ref a2, .ref a3, .int (nI n), .long S])), (a2, .inl (cI, 41, .inl (fun i => nI (mu i)))), (a3, .inl (cL, 41, .inr (.inl F)))] (fun (_ : Unit) => True) (fun (_ : Unit) => some (.int (nI (ks_en F S mu k)))) := by
  refine PM.ofG cX0_energyOf 5 (some .int) (by decide +kernel) rfl (Nat.le_of_ble_eq_true rfl) ?_
  intro p e s m below meth c B hr hlocks hname hK hN
  refine g_aload_n B dX0_energyOf_0 0 rfl ?_
  refine g_iload_n B dX0_energyOf_1 1 rfl ?_
  refine g_callP (g_runV (q0 := 0) (ci := 0) B hK rfl rfl (PM.met (k_isKept l (D := D) (cI := cI) (cL := cL) (cZ := cZ) (cQ := cQ) ha a0 a1 a2 a3 n S k (by first | assumption | omega))) (gPp.pre (av := [.ref ha, .int (nI k)]) (wc := [(ha, .inr (0, [.ref a0, .ref a1, .ref a2, .ref a3, .int (nI n), .long S]))]) hK hN [0] rfl (by decide)) gX0_energyOf_X0_isKept rfl rfl kd_X0_isKept ⟨by decide, by decide⟩ (st := []) rfl (Nat.le_of_ble_eq_true rfl) dX0_energyOf_2 ⟨by decide, by decide⟩) (fun u hu => ?_)
  refine g_bif_ne (tgt := 10) B dX0_energyOf_5 (by decide) (fun c2 => ?_) (fun c2 => ?_)
  · refine g_aload_n B dX0_energyOf_10 0 rfl ?_
    refine g_iload_n B dX0_energyOf_11 1 rfl ?_
    refine g_aload_n B dX0_energyOf_12 0 rfl ?_
    refine g_get (C := RX0) (T := TX0) (N := 6) (ci := 0) B hK hin_X0_energyOf_RX0 0 rfl rfl 5 (by decide) (List.mem_of_getElem? (i := 1) rfl) rfl (v := .long S) rfl dX0_energyOf_13 ?_
    refine g_callP (g_runV (q0 := 0) (ci := 0) B hK rfl rfl (PM.met (k_foundAloneBy l (D := D) (cI := cI) (cL := cL) (cZ := cZ) (cQ := cQ) ha a0 a1 a2 a3 n S F S k (by first | assumption | omega))) (gPp.pre (av := [.ref ha, .int (nI k), .long S]) (wc := [(ha, .inr (0, [.ref a0, .ref a1, .ref a2, .ref a3, .int (nI n), .long S])), (a3, .inl (cL, 41, .inr (.inl F)))]) hK hN [0, 2] rfl (by decide)) gX0_energyOf_X0_foundAloneBy rfl rfl kd_X0_foundAloneBy ⟨by decide, by decide⟩ (st := []) rfl (Nat.le_of_ble_eq_true rfl) dX0_energyOf_16 ⟨by decide, by decide⟩) (fun u hu => ?_)
    refine g_lstore_n (lv' := [(0, .ref ha), (1, .int (nI k)), (2, .long (ks_al F k S))]) B dX0_energyOf_19 rfl (by decide) [1, 2, 0] rfl ?_
    refine g_lload_n B dX0_energyOf_20 2 rfl ?_
    refine g_bipush (v := (24 : Int32)) B dX0_energyOf_21 (by decide) ?_
    refine g_lushr (v := lShr (ks_al F k S) (24 : Int32)) B dX0_energyOf_23 (rfl) ?_
    refine g_lconst (v := (0 : Int64)) B dX0_energyOf_24 rfl ?_
    refine g_lcmp (v := (lg_cmp (lShr (ks_al F k S) (24 : Int32)) (0 : Int64))) B dX0_energyOf_25 rfl ?_
    refine g_lif_eq (tgt := 33) B dX0_energyOf_26 (by decide) (fun c4 => ?_) (fun c4 => ?_)
    · refine g_iconst (v := (0 : Int32)) B dX0_energyOf_33 (by decide) ?_
      refine g_istore (lv' := [(0, .ref ha), (1, .int (nI k)), (2, .long (ks_al F k S)), (4, .int (0 : Int32))]) B dX0_energyOf_34 (by decide) [1, 2, 3, 0] rfl ?_
      refine g_iconst (v := (0 : Int32)) B dX0_energyOf_36 (by decide) ?_
      refine g_iconst (v := (1 : Int32)) B dX0_energyOf_37 (by decide) ?_
      refine g_iconst (v := (3 : Int32)) B dX0_energyOf_38 (by decide) ?_
      refine g_lload_n B dX0_energyOf_39 2 rfl ?_
      refine g_callP (g_runSN B hN (PM.met (k_edgesIn l (D := D) (cI := cI) (cL := cL) (cZ := cZ) (cQ := cQ) (ks_al F k S) )) (gPp.pre (av := [.long (ks_al F k S)]) (wc := []) hK hN [] rfl (by decide)) gX0_energyOf_X5_edgesIn_n62 (List.mem_of_getElem? (i := 13) rfl) (List.mem_of_getElem? (i := 27) rfl) 5 rfl rfl kd_X5_edgesIn ⟨by decide, by decide⟩ (st := [.int (3 : Int32), .int (1 : Int32), .int (0 : Int32)]) rfl (Nat.le_of_ble_eq_true rfl) dX0_energyOf_40 ⟨by decide, by decide⟩) (fun u hu => ?_)
      refine g_imul (v := nI (3 * (ks_ed (ks_al F k S)))) B dX0_energyOf_43 (pk_mul 3 (ks_ed (ks_al F k S))) ?_
      refine g_iadd (v := nI (1 + (3 * (ks_ed (ks_al F k S))))) B dX0_energyOf_44 (nI_add 1 (3 * (ks_ed (ks_al F k S)))) ?_
      refine g_iload B dX0_energyOf_45 3 rfl ?_
      refine g_iadd (v := nI (1 + (3 * (ks_ed (ks_al F k S))))) B dX0_energyOf_47 (nI_add (1 + (3 * (ks_ed (ks_al F k S)))) 0) ?_
      refine g_aload_n B dX0_energyOf_48 0 rfl ?_
      refine g_get (C := RX0) (T := TX0) (N := 6) (ci := 0) B hK hin_X0_energyOf_RX0 0 rfl rfl 2 (by decide) (List.mem_of_getElem? (i := 2) rfl) rfl (v := .ref a2) rfl dX0_energyOf_49 ?_
      refine g_iload_n B dX0_energyOf_52 1 rfl ?_
      refine g_iald B hK 1 0 rfl rfl k rfl (by omega) (by omega) (v := nI (mu k)) rfl dX0_energyOf_53 ?_
      refine g_isub (v := nI ((1 + (3 * (ks_ed (ks_al F k S)))) - (mu k))) B dX0_energyOf_54 (pk_sub (by omega)) ?_
      refine g_mmax (v := (if (0 : Int32) < nI ((1 + (3 * (ks_ed (ks_al F k S)))) - (mu k)) then nI ((1 + (3 * (ks_ed (ks_al F k S)))) - (mu k)) else (0 : Int32))) B (List.mem_of_getElem? (i := 3) rfl) (List.mem_of_getElem? (i := 4) rfl) (List.mem_of_getElem? (i := 5) rfl) (List.mem_of_getElem? (i := 6) rfl) (by decide) (by decide) (by decide) (by decide) dX0_energyOf_55 (rfl) ?_
      have w1 := ks_ed_le (ks_al F k S); have w2 := hmu k
      refine g_eqi (y := nI (ks_en F S mu k)) (by rw [show ks_en F S mu k = 1 + 3 * ks_ed (ks_al F k S) + 0 - mu k from by unfold ks_en; rw [c2, if_pos rfl, if_pos c4]]; exact ks_max0 (by omega) (by omega)) ?_
      exact g_iret_p B hr rfl hlocks () (by first | rfl | (rw [show ks_en F S mu k = 0 from by unfold ks_en; rw [c4]; rfl]; rfl)) (trivial) dX0_energyOf_58
    · refine g_iconst (v := (5 : Int32)) B dX0_energyOf_29 (by decide) ?_
      refine g_goto (tgt := 34) B dX0_energyOf_30 (by decide) ?_
      refine g_istore (lv' := [(0, .ref ha), (1, .int (nI k)), (2, .long (ks_al F k S)), (4, .int (5 : Int32))]) B dX0_energyOf_34 (by decide) [1, 2, 3, 0] rfl ?_
      refine g_iconst (v := (0 : Int32)) B dX0_energyOf_36 (by decide) ?_
      refine g_iconst (v := (1 : Int32)) B dX0_energyOf_37 (by decide) ?_
      refine g_iconst (v := (3 : Int32)) B dX0_energyOf_38 (by decide) ?_
      refine g_lload_n B dX0_energyOf_39 2 rfl ?_
      refine g_callP (g_runSN B hN (PM.met (k_edgesIn l (D := D) (cI := cI) (cL := cL) (cZ := cZ) (cQ := cQ) (ks_al F k S) )) (gPp.pre (av := [.long (ks_al F k S)]) (wc := []) hK hN [] rfl (by decide)) gX0_energyOf_X5_edgesIn_n62 (List.mem_of_getElem? (i := 13) rfl) (List.mem_of_getElem? (i := 27) rfl) 5 rfl rfl kd_X5_edgesIn ⟨by decide, by decide⟩ (st := [.int (3 : Int32), .int (1 : Int32), .int (0 : Int32)]) rfl (Nat.le_of_ble_eq_true rfl) dX0_energyOf_40 ⟨by decide, by decide⟩) (fun u hu => ?_)
      refine g_imul (v := nI (3 * (ks_ed (ks_al F k S)))) B dX0_energyOf_43 (pk_mul 3 (ks_ed (ks_al F k S))) ?_
      refine g_iadd (v := nI (1 + (3 * (ks_ed (ks_al F k S))))) B dX0_energyOf_44 (nI_add 1 (3 * (ks_ed (ks_al F k S)))) ?_
      refine g_iload B dX0_energyOf_45 3 rfl ?_
      refine g_iadd (v := nI ((1 + (3 * (ks_ed (ks_al F k S)))) + 5)) B dX0_energyOf_47 (nI_add (1 + (3 * (ks_ed (ks_al F k S)))) 5) ?_
      refine g_aload_n B dX0_energyOf_48 0 rfl ?_
      refine g_get (C := RX0) (T := TX0) (N := 6) (ci := 0) B hK hin_X0_energyOf_RX0 0 rfl rfl 2 (by decide) (List.mem_of_getElem? (i := 2) rfl) rfl (v := .ref a2) rfl dX0_energyOf_49 ?_
      refine g_iload_n B dX0_energyOf_52 1 rfl ?_
      refine g_iald B hK 1 0 rfl rfl k rfl (by omega) (by omega) (v := nI (mu k)) rfl dX0_energyOf_53 ?_
      refine g_isub (v := nI (((1 + (3 * (ks_ed (ks_al F k S)))) + 5) - (mu k))) B dX0_energyOf_54 (pk_sub (by omega)) ?_
      refine g_mmax (v := (if (0 : Int32) < nI (((1 + (3 * (ks_ed (ks_al F k S)))) + 5) - (mu k)) then nI (((1 + (3 * (ks_ed (ks_al F k S)))) + 5) - (mu k)) else (0 : Int32))) B (List.mem_of_getElem? (i := 3) rfl) (List.mem_of_getElem? (i := 4) rfl) (List.mem_of_getElem? (i := 5) rfl) (List.mem_of_getElem? (i := 6) rfl) (by decide) (by decide) (by decide) (by decide) dX0_energyOf_55 (rfl) ?_
      have w1 := ks_ed_le (ks_al F k S); have w2 := hmu k
      refine g_eqi (y := nI (ks_en F S mu k)) (by rw [show ks_en F S mu k = 1 + 3 * ks_ed (ks_al F k S) + 5 - mu k from by unfold ks_en; rw [c2, if_pos rfl, if_neg c4]]; exact ks_max0 (by omega) (by omega)) ?_
      exact g_iret_p B hr rfl hlocks () (by first | rfl | (rw [show ks_en F S mu k = 0 from by unfold ks_en; rw [c4]; rfl]; rfl)) (trivial) dX0_energyOf_58
  · refine g_iconst (v := (0 : Int32)) B dX0_energyOf_8 (by decide) ?_
    exact g_iret_p B hr rfl hlocks () (by first | rfl | (rw [show ks_en F S mu k = 0 from by unfold ks_en; rw [c2]; rfl]; rfl)) (trivial) dX0_energyOf_9

set_option maxHeartbeats 4000000 in
set_option maxRecDepth 100000 in
theorem k_wholeEnergy (l : Launch) {D : va_G} {cI cL cZ cQ : ClassId} (ha : Nat) (a0 : Nat) (a1 : Nat) (a2 : Nat) (a3 : Nat) (n : Nat) (S : Int64) (F : Nat → Int64) (mu : Nat → Nat) (hn : n ≤ 40) (hmu : ∀ i, mu i < 1000) : PM l yX0_wholeEnergy wsX0_wholeEnergy ({ frames := 4, cells := 0, slots := 0, locals := 94 } : Room) D (gTys cI cL cZ cQ) [.ref ha] [(ha, .inr (0, [.ref a0, .ref a1, .ref a2, .ref a3, .int (nI n), .long S])), (a2, .inl (cI, 41, .inl (fun i => nI (mu i)))), (a3, .inl (cL, 41, .inr (.inl F)))] (fun (_ : Unit) => True) (fun (_ : Unit) => some (.int (nI (ks_we F S mu n)))) := by
  refine PM.ofG cX0_wholeEnergy 3 (some .int) (by decide +kernel) rfl (Nat.le_of_ble_eq_true rfl) ?_
  intro p e s m below meth c B hr hlocks hname hK hN
  refine g_iconst (v := (0 : Int32)) B dX0_wholeEnergy_0 (by decide) ?_
  refine g_istore_n (lv' := [(0, .ref ha), (1, .int (0 : Int32))]) B dX0_wholeEnergy_1 rfl (by decide) [1, 0] rfl ?_
  refine g_iconst (v := (0 : Int32)) B dX0_wholeEnergy_2 (by decide) ?_
  refine g_istore_n (lv' := [(0, .ref ha), (1, .int (0 : Int32)), (2, .int (0 : Int32))]) B dX0_wholeEnergy_3 rfl (by decide) [1, 2, 0] rfl ?_
  refine g_loop (σ := Nat) (fun x9 => x9 ≤ n) (fun x9 => 41 - x9) (fun x9 => 0) (fun x9 => 0) (fun x9 => [(ha, .inr (0, [.ref a0, .ref a1, .ref a2, .ref a3, .int (nI n), .long S])), (a2, .inl (cI, 41, .inl (fun i => nI (mu i)))), (a3, .inl (cL, 41, .inr (.inl F)))]) (fun x9 => [(0, .ref ha), (1, .int (nI (ks_we F S mu x9))), (2, .int (nI x9))]) (fun x9 hI ih4 => ?_) 0 (by (try dsimp only); omega) rfl rfl rfl rfl
  obtain ⟨k, e9⟩ : ∃ z, z = x9 := ⟨_, rfl⟩; subst e9
  try dsimp only at hI ih4 ⊢
  refine g_iload_n B dX0_wholeEnergy_4 2 rfl ?_
  refine g_aload_n B dX0_wholeEnergy_5 0 rfl ?_
  refine g_get (C := RX0) (T := TX0) (N := 6) (ci := 0) B hK hin_X0_wholeEnergy_RX0 0 rfl rfl 4 (by decide) (List.mem_of_getElem? (i := 1) rfl) rfl (v := .int (nI n)) rfl dX0_wholeEnergy_6 ?_
  refine g_ncmp_ge (tgt := 32) B k n rfl rfl (by omega) (by omega) dX0_wholeEnergy_9 (by decide) (fun c1 => ?_) (fun c1 => ?_)
  · refine g_iload_n B dX0_wholeEnergy_32 1 rfl ?_
    have hkn : k = n := by omega
    exact g_iret_p B hr rfl hlocks () (by rw [hkn]) (trivial) dX0_wholeEnergy_33
  · refine g_iload_n B dX0_wholeEnergy_12 2 rfl ?_
    refine g_bipush (v := (40 : Int32)) B dX0_wholeEnergy_13 (by decide) ?_
    refine g_ncmp_ge (tgt := 32) B k 40 rfl rfl (by omega) (by omega) dX0_wholeEnergy_15 (by decide) (fun c2 => ?_) (fun c2 => ?_)
    · exfalso; omega
    refine g_iload_n B dX0_wholeEnergy_18 1 rfl ?_
    refine g_aload_n B dX0_wholeEnergy_19 0 rfl ?_
    refine g_iload_n B dX0_wholeEnergy_20 2 rfl ?_
    refine g_callP (g_runV (q0 := 0) (ci := 0) B hK rfl rfl (PM.met (k_energyOf l (D := D) (cI := cI) (cL := cL) (cZ := cZ) (cQ := cQ) ha a0 a1 a2 a3 n S F mu k (by first | assumption | omega) (by first | assumption | omega))) (gPp.pre (av := [.ref ha, .int (nI k)]) (wc := [(ha, .inr (0, [.ref a0, .ref a1, .ref a2, .ref a3, .int (nI n), .long S])), (a2, .inl (cI, 41, .inl (fun i => nI (mu i)))), (a3, .inl (cL, 41, .inr (.inl F)))]) hK hN [0, 1, 2] rfl (by decide)) gX0_wholeEnergy_X0_energyOf rfl rfl kd_X0_energyOf ⟨by decide, by decide⟩ (st := [.int (nI (ks_we F S mu k))]) rfl (Nat.le_of_ble_eq_true rfl) dX0_wholeEnergy_21 ⟨by decide, by decide⟩) (fun u hu => ?_)
    refine g_iadd (v := nI ((ks_we F S mu k) + (ks_en F S mu k))) B dX0_wholeEnergy_24 (nI_add (ks_we F S mu k) (ks_en F S mu k)) ?_
    refine g_istore_n (lv' := [(0, .ref ha), (1, .int (nI ((ks_we F S mu k) + (ks_en F S mu k)))), (2, .int (nI k))]) B dX0_wholeEnergy_25 rfl (by decide) [1, 0, 2] rfl ?_
    refine g_iinc (lv' := [(0, .ref ha), (1, .int (nI ((ks_we F S mu k) + (ks_en F S mu k)))), (2, .int (nI (k + 1)))]) B dX0_wholeEnergy_26 2 rfl (nI_1 k) (by decide) [1, 2, 0] rfl ?_
    refine g_goto (tgt := 4) B dX0_wholeEnergy_29 (by decide) ?_
    exact ih4 (k + 1) (by (try dsimp only); omega) (by (try dsimp only); omega)

set_option maxHeartbeats 4000000 in
set_option maxRecDepth 100000 in
theorem k_mostEnergetic (l : Launch) {D : va_G} {cI cL cZ cQ : ClassId} (ha : Nat) (a0 : Nat) (a1 : Nat) (a2 : Nat) (a3 : Nat) (n : Nat) (S : Int64) (F : Nat → Int64) (mu : Nat → Nat) (hn : n ≤ 40) (hmu : ∀ i, mu i < 1000) : PM l yX0_mostEnergetic wsX0_mostEnergetic ({ frames := 4, cells := 0, slots := 0, locals := 94 } : Room) D (gTys cI cL cZ cQ) [.ref ha] [(ha, .inr (0, [.ref a0, .ref a1, .ref a2, .ref a3, .int (nI n), .long S])), (a2, .inl (cI, 41, .inl (fun i => nI (mu i)))), (a3, .inl (cL, 41, .inr (.inl F)))] (fun (_ : Unit) => True) (fun (_ : Unit) => some (.int (nI (ks_be F S mu n).1 - 1))) := by
  refine PM.ofG cX0_mostEnergetic 5 (some .int) (by decide +kernel) rfl (Nat.le_of_ble_eq_true rfl) ?_
  intro p e s m below meth c B hr hlocks hname hK hN
  refine g_iconst (v := (-1 : Int32)) B dX0_mostEnergetic_0 (by decide) ?_
  refine g_istore_n (lv' := [(0, .ref ha), (1, .int (-1 : Int32))]) B dX0_mostEnergetic_1 rfl (by decide) [1, 0] rfl ?_
  refine g_iconst (v := (-1 : Int32)) B dX0_mostEnergetic_2 (by decide) ?_
  refine g_istore_n (lv' := [(0, .ref ha), (1, .int (-1 : Int32)), (2, .int (-1 : Int32))]) B dX0_mostEnergetic_3 rfl (by decide) [1, 2, 0] rfl ?_
  refine g_iconst (v := (0 : Int32)) B dX0_mostEnergetic_4 (by decide) ?_
  refine g_istore_n (lv' := [(0, .ref ha), (1, .int (-1 : Int32)), (2, .int (-1 : Int32)), (3, .int (0 : Int32))]) B dX0_mostEnergetic_5 rfl (by decide) [1, 2, 3, 0] rfl ?_
  refine g_loop (σ := Nat) (fun x9 => x9 ≤ n) (fun x9 => 41 - x9) (fun x9 => 0) (fun x9 => 0) (fun x9 => [(ha, .inr (0, [.ref a0, .ref a1, .ref a2, .ref a3, .int (nI n), .long S])), (a2, .inl (cI, 41, .inl (fun i => nI (mu i)))), (a3, .inl (cL, 41, .inr (.inl F)))]) (fun x9 => [(0, .ref ha), (1, .int (nI (ks_be F S mu x9).1 - 1)), (2, .int (nI (ks_be F S mu x9).2 - 1)), (3, .int (nI x9))]) (fun x9 hI ih6 => ?_) 0 (by (try dsimp only); omega) rfl rfl rfl rfl
  obtain ⟨k, e9⟩ : ∃ z, z = x9 := ⟨_, rfl⟩; subst e9
  try dsimp only at hI ih6 ⊢
  refine g_iload_n B dX0_mostEnergetic_6 3 rfl ?_
  refine g_aload_n B dX0_mostEnergetic_7 0 rfl ?_
  refine g_get (C := RX0) (T := TX0) (N := 6) (ci := 0) B hK hin_X0_mostEnergetic_RX0 0 rfl rfl 4 (by decide) (List.mem_of_getElem? (i := 1) rfl) rfl (v := .int (nI n)) rfl dX0_mostEnergetic_8 ?_
  refine g_ncmp_ge (tgt := 52) B k n rfl rfl (by omega) (by omega) dX0_mostEnergetic_11 (by decide) (fun c1 => ?_) (fun c1 => ?_)
  · refine g_iload_n B dX0_mostEnergetic_52 1 rfl ?_
    have hkn : k = n := by omega
    exact g_iret_p B hr rfl hlocks () (by rw [hkn]) (trivial) dX0_mostEnergetic_53
  · refine g_iload_n B dX0_mostEnergetic_14 3 rfl ?_
    refine g_bipush (v := (40 : Int32)) B dX0_mostEnergetic_15 (by decide) ?_
    refine g_ncmp_ge (tgt := 52) B k 40 rfl rfl (by omega) (by omega) dX0_mostEnergetic_17 (by decide) (fun c2 => ?_) (fun c2 => ?_)
    · exfalso; omega
    refine g_aload_n B dX0_mostEnergetic_20 0 rfl ?_
    refine g_iload_n B dX0_mostEnergetic_21 3 rfl ?_
    refine g_callP (g_runV (q0 := 0) (ci := 0) B hK rfl rfl (PM.met (k_isKept l (D := D) (cI := cI) (cL := cL) (cZ := cZ) (cQ := cQ) ha a0 a1 a2 a3 n S k (by first | assumption | omega))) (gPp.pre (av := [.ref ha, .int (nI k)]) (wc := [(ha, .inr (0, [.ref a0, .ref a1, .ref a2, .ref a3, .int (nI n), .long S]))]) hK hN [0] rfl (by decide)) gX0_mostEnergetic_X0_isKept rfl rfl kd_X0_isKept ⟨by decide, by decide⟩ (st := []) rfl (Nat.le_of_ble_eq_true rfl) dX0_mostEnergetic_22 ⟨by decide, by decide⟩) (fun u hu => ?_)
    refine g_bif_eq (tgt := 46) B dX0_mostEnergetic_25 (by decide) (fun c4 => ?_) (fun c4 => ?_)
    · refine g_pick (lv2 := [(0, .ref ha), (1, .int (nI (ks_be F S mu k).1 - 1)), (2, .int (nI (ks_be F S mu k).2 - 1)), (3, .int (nI k))]) [0, 1, 2, 3] rfl ?_
      refine g_eqlv (lv2 := [(0, .ref ha), (1, .int (nI (ks_be F S mu (k + 1)).1 - 1)), (2, .int (nI (ks_be F S mu (k + 1)).2 - 1)), (3, .int (nI k))]) (by rw [show ks_be F S mu (k + 1) = _ from (ks_be_no c4)]) ?_
      refine g_iinc (lv' := [(0, .ref ha), (1, .int (nI (ks_be F S mu (k + 1)).1 - 1)), (2, .int (nI (ks_be F S mu (k + 1)).2 - 1)), (3, .int (nI (k + 1)))]) B dX0_mostEnergetic_46 3 rfl (nI_1 k) (by decide) [1, 2, 3, 0] rfl ?_
      refine g_goto (tgt := 6) B dX0_mostEnergetic_49 (by decide) ?_
      exact ih6 (k + 1) (by (try dsimp only); omega) (by (try dsimp only); omega)
    · refine g_aload_n B dX0_mostEnergetic_28 0 rfl ?_
      refine g_iload_n B dX0_mostEnergetic_29 3 rfl ?_
      refine g_callP (g_runV (q0 := 0) (ci := 0) B hK rfl rfl (PM.met (k_energyOf l (D := D) (cI := cI) (cL := cL) (cZ := cZ) (cQ := cQ) ha a0 a1 a2 a3 n S F mu k (by first | assumption | omega) (by first | assumption | omega))) (gPp.pre (av := [.ref ha, .int (nI k)]) (wc := [(ha, .inr (0, [.ref a0, .ref a1, .ref a2, .ref a3, .int (nI n), .long S])), (a2, .inl (cI, 41, .inl (fun i => nI (mu i)))), (a3, .inl (cL, 41, .inr (.inl F)))]) hK hN [0, 1, 2] rfl (by decide)) gX0_mostEnergetic_X0_energyOf rfl rfl kd_X0_energyOf ⟨by decide, by decide⟩ (st := []) rfl (Nat.le_of_ble_eq_true rfl) dX0_mostEnergetic_30 ⟨by decide, by decide⟩) (fun u hu => ?_)
      refine g_istore (lv' := [(0, .ref ha), (1, .int (nI (ks_be F S mu k).1 - 1)), (2, .int (nI (ks_be F S mu k).2 - 1)), (3, .int (nI k)), (4, .int (nI (ks_en F S mu k)))]) B dX0_mostEnergetic_33 (by decide) [1, 2, 3, 4, 0] rfl ?_
      refine g_iload B dX0_mostEnergetic_35 4 rfl ?_
      refine g_iload_n B dX0_mostEnergetic_37 2 rfl ?_
      refine g_icmp_le (tgt := 46) B dX0_mostEnergetic_38 (by decide) (fun c6 => ?_) (fun c6 => ?_)
      · refine g_pick (lv2 := [(0, .ref ha), (1, .int (nI (ks_be F S mu k).1 - 1)), (2, .int (nI (ks_be F S mu k).2 - 1)), (3, .int (nI k))]) [0, 1, 2, 3] rfl ?_
        refine g_eqlv (lv2 := [(0, .ref ha), (1, .int (nI (ks_be F S mu (k + 1)).1 - 1)), (2, .int (nI (ks_be F S mu (k + 1)).2 - 1)), (3, .int (nI k))]) (by rw [show ks_be F S mu (k + 1) = _ from (ks_be_le0 c6)]) ?_
        refine g_iinc (lv' := [(0, .ref ha), (1, .int (nI (ks_be F S mu (k + 1)).1 - 1)), (2, .int (nI (ks_be F S mu (k + 1)).2 - 1)), (3, .int (nI (k + 1)))]) B dX0_mostEnergetic_46 3 rfl (nI_1 k) (by decide) [1, 2, 3, 0] rfl ?_
        refine g_goto (tgt := 6) B dX0_mostEnergetic_49 (by decide) ?_
        exact ih6 (k + 1) (by (try dsimp only); omega) (by (try dsimp only); omega)
      · refine g_iload_n B dX0_mostEnergetic_41 3 rfl ?_
        refine g_istore_n (lv' := [(0, .ref ha), (1, .int (nI k)), (2, .int (nI (ks_be F S mu k).2 - 1)), (3, .int (nI k)), (4, .int (nI (ks_en F S mu k)))]) B dX0_mostEnergetic_42 rfl (by decide) [1, 0, 2, 3, 4] rfl ?_
        refine g_iload B dX0_mostEnergetic_43 4 rfl ?_
        refine g_istore_n (lv' := [(0, .ref ha), (1, .int (nI k)), (2, .int (nI (ks_en F S mu k))), (3, .int (nI k)), (4, .int (nI (ks_en F S mu k)))]) B dX0_mostEnergetic_45 rfl (by decide) [1, 2, 0, 3, 4] rfl ?_
        refine g_pick (lv2 := [(0, .ref ha), (1, .int (nI k)), (2, .int (nI (ks_en F S mu k))), (3, .int (nI k))]) [0, 1, 2, 3] rfl ?_
        refine g_eqlv (lv2 := [(0, .ref ha), (1, .int (nI (ks_be F S mu (k + 1)).1 - 1)), (2, .int (nI (ks_be F S mu (k + 1)).2 - 1)), (3, .int (nI k))]) (by rw [show ks_be F S mu (k + 1) = _ from (ks_be_yes c4 c6)]; simp only [← nI_1, ks_sub1]) ?_
        refine g_iinc (lv' := [(0, .ref ha), (1, .int (nI (ks_be F S mu (k + 1)).1 - 1)), (2, .int (nI (ks_be F S mu (k + 1)).2 - 1)), (3, .int (nI (k + 1)))]) B dX0_mostEnergetic_46 3 rfl (nI_1 k) (by decide) [1, 2, 3, 0] rfl ?_
        refine g_goto (tgt := 6) B dX0_mostEnergetic_49 (by decide) ?_
        exact ih6 (k + 1) (by (try dsimp only); omega) (by (try dsimp only); omega)

set_option maxHeartbeats 4000000 in
set_option maxRecDepth 100000 in
theorem k_neededOf (l : Launch) {D : va_G} {cI cL cZ cQ : ClassId} (ha : Nat) (a0 : Nat) (a1 : Nat) (a2 : Nat) (a3 : Nat) (n : Nat) (S : Int64) (F : Nat → Int64) (T : Int64)  : PM l yX0_neededOf wsX0_neededOf ({ frames := 3, cells := 0, slots := 0, locals := 70 } : Room) D (gTys cI cL cZ cQ) [.ref ha, .long T] [(ha, .inr (0, [.ref a0, .ref a1, .ref a2, .ref a3, .int (nI n), .long S])), (a3, .inl (cL, 41, .inr (.inl F)))] (fun (_ : Unit) => True) (fun (_ : Unit) => some (.long (ks_nS F T 41))) := by
  refine PM.ofG cX0_neededOf 6 (some .long) (by decide +kernel) rfl (Nat.le_of_ble_eq_true rfl) ?_
  intro p e s m below meth c B hr hlocks hname hK hN
  refine g_lload_n B dX0_neededOf_0 1 rfl ?_
  refine g_lstore_n (lv' := [(0, .ref ha), (1, .long T), (3, .long T)]) B dX0_neededOf_1 rfl (by decide) [1, 2, 0] rfl ?_
  refine g_iconst (v := (0 : Int32)) B dX0_neededOf_2 (by decide) ?_
  refine g_istore (lv' := [(0, .ref ha), (1, .long T), (3, .long T), (5, .int (0 : Int32))]) B dX0_neededOf_3 (by decide) [1, 2, 3, 0] rfl ?_
  refine g_loop (σ := Nat) (fun x9 => x9 ≤ 41) (fun x9 => 42 - x9) (fun x9 => 0) (fun x9 => 0) (fun x9 => [(ha, .inr (0, [.ref a0, .ref a1, .ref a2, .ref a3, .int (nI n), .long S])), (a3, .inl (cL, 41, .inr (.inl F)))]) (fun x9 => [(0, .ref ha), (1, .long T), (3, .long (ks_nS F T x9)), (5, .int (nI x9))]) (fun x9 hI ih5 => ?_) 0 (by (try dsimp only); omega) rfl rfl rfl rfl
  obtain ⟨k, e9⟩ : ∃ z, z = x9 := ⟨_, rfl⟩; subst e9
  try dsimp only at hI ih5 ⊢
  refine g_iload B dX0_neededOf_5 3 rfl ?_
  refine g_bipush (v := (41 : Int32)) B dX0_neededOf_7 (by decide) ?_
  refine g_ncmp_ge (tgt := 51) B k 41 rfl rfl (by omega) (by omega) dX0_neededOf_9 (by decide) (fun c1 => ?_) (fun c1 => ?_)
  · refine g_lload_n B dX0_neededOf_51 2 rfl ?_
    have hk41 : k = 41 := by omega
    exact g_lret_p B hr hlocks () (by rw [hk41]) (trivial) dX0_neededOf_52
  · refine g_lload_n B dX0_neededOf_12 2 rfl ?_
    refine g_iload B dX0_neededOf_13 3 rfl ?_
    refine g_callP (g_runSN B hN (PM.met (k_contains l (D := D) (cI := cI) (cL := cL) (cZ := cZ) (cQ := cQ) (ks_nS F T k) k (by first | assumption | omega))) (gPp.pre (av := [.long (ks_nS F T k), .int (nI k)]) (wc := []) hK hN [] rfl (by decide)) gX0_neededOf_X5_contains_n29 (List.mem_of_getElem? (i := 3) rfl) (List.mem_of_getElem? (i := 2) rfl) 3 rfl rfl kd_X5_contains ⟨by decide, by decide⟩ (st := []) rfl (Nat.le_of_ble_eq_true rfl) dX0_neededOf_15 ⟨by decide, by decide⟩) (fun u hu => ?_)
    refine g_bif_eq (tgt := 45) B dX0_neededOf_18 (by decide) (fun c3 => ?_) (fun c3 => ?_)
    · refine g_eqlv (lv2 := [(0, .ref ha), (1, .long T), (3, .long (ks_nS F T (k + 1))), (5, .int (nI k))]) (by rw [show ks_nS F T (k + 1) = (if hasB (ks_nS F T k) k && decide (ks_al F k (ks_nS F T k) = 0) then ks_mi (ks_nS F T k) k else ks_nS F T k) from rfl, c3]; rfl) ?_
      refine g_iinc (lv' := [(0, .ref ha), (1, .long T), (3, .long (ks_nS F T (k + 1))), (5, .int (nI (k + 1)))]) B dX0_neededOf_45 3 rfl (nI_1 k) (by decide) [1, 2, 3, 0] rfl ?_
      refine g_goto (tgt := 5) B dX0_neededOf_48 (by decide) ?_
      exact ih5 (k + 1) (by (try dsimp only); omega) (by (try dsimp only); omega)
    · refine g_aload_n B dX0_neededOf_21 0 rfl ?_
      refine g_iload B dX0_neededOf_22 3 rfl ?_
      refine g_lload_n B dX0_neededOf_24 2 rfl ?_
      refine g_callP (g_runV (q0 := 0) (ci := 0) B hK rfl rfl (PM.met (k_foundAloneBy l (D := D) (cI := cI) (cL := cL) (cZ := cZ) (cQ := cQ) ha a0 a1 a2 a3 n S F (ks_nS F T k) k (by first | assumption | omega))) (gPp.pre (av := [.ref ha, .int (nI k), .long (ks_nS F T k)]) (wc := [(ha, .inr (0, [.ref a0, .ref a1, .ref a2, .ref a3, .int (nI n), .long S])), (a3, .inl (cL, 41, .inr (.inl F)))]) hK hN [0, 1] rfl (by decide)) gX0_neededOf_X0_foundAloneBy rfl rfl kd_X0_foundAloneBy ⟨by decide, by decide⟩ (st := []) rfl (Nat.le_of_ble_eq_true rfl) dX0_neededOf_25 ⟨by decide, by decide⟩) (fun u hu => ?_)
      refine g_lconst (v := (0 : Int64)) B dX0_neededOf_28 rfl ?_
      refine g_lcmp (v := (lg_cmp (ks_al F k (ks_nS F T k)) (0 : Int64))) B dX0_neededOf_29 rfl ?_
      refine g_lif_ne (tgt := 45) B dX0_neededOf_30 (by decide) (fun c5 => ?_) (fun c5 => ?_)
      · refine g_eqlv (lv2 := [(0, .ref ha), (1, .long T), (3, .long (ks_nS F T (k + 1))), (5, .int (nI k))]) (by rw [show ks_nS F T (k + 1) = (if hasB (ks_nS F T k) k && decide (ks_al F k (ks_nS F T k) = 0) then ks_mi (ks_nS F T k) k else ks_nS F T k) from rfl, c3, decide_eq_false c5]; rfl) ?_
        refine g_iinc (lv' := [(0, .ref ha), (1, .long T), (3, .long (ks_nS F T (k + 1))), (5, .int (nI (k + 1)))]) B dX0_neededOf_45 3 rfl (nI_1 k) (by decide) [1, 2, 3, 0] rfl ?_
        refine g_goto (tgt := 5) B dX0_neededOf_48 (by decide) ?_
        exact ih5 (k + 1) (by (try dsimp only); omega) (by (try dsimp only); omega)
      · refine g_lload_n B dX0_neededOf_33 2 rfl ?_
        refine g_iload B dX0_neededOf_34 3 rfl ?_
        refine g_callP (g_runSN B hN (PM.met (k_bit l (D := D) (cI := cI) (cL := cL) (cZ := cZ) (cQ := cQ) k (by first | assumption | omega))) (gPp.pre (av := [.int (nI k)]) (wc := []) hK hN [] rfl (by decide)) gX0_neededOf_X5_bit_n37 (List.mem_of_getElem? (i := 3) rfl) (List.mem_of_getElem? (i := 11) rfl) 4 rfl rfl kd_X5_bit ⟨by decide, by decide⟩ (st := [.long (ks_nS F T k)]) rfl (Nat.le_of_ble_eq_true rfl) dX0_neededOf_36 ⟨by decide, by decide⟩) (fun u hu => ?_)
        refine g_ldc2 (v := (-1 : Int64)) B dX0_neededOf_39 (List.mem_of_getElem? (i := 1) rfl) ?_
        refine g_lxor (v := ((lShl 1 (nI k)) ^^^ (-1 : Int64))) B dX0_neededOf_42 (rfl) ?_
        refine g_land (v := ((ks_nS F T k) &&& ((lShl 1 (nI k)) ^^^ (-1 : Int64)))) B dX0_neededOf_43 (rfl) ?_
        refine g_lstore_n (lv' := [(0, .ref ha), (1, .long T), (3, .long ((ks_nS F T k) &&& ((lShl 1 (nI k)) ^^^ (-1 : Int64)))), (5, .int (nI k))]) B dX0_neededOf_44 rfl (by decide) [1, 2, 0, 3] rfl ?_
        refine g_eqlv (lv2 := [(0, .ref ha), (1, .long T), (3, .long (ks_nS F T (k + 1))), (5, .int (nI k))]) (by rw [show ks_nS F T (k + 1) = (if hasB (ks_nS F T k) k && decide (ks_al F k (ks_nS F T k) = 0) then ks_mi (ks_nS F T k) k else ks_nS F T k) from rfl, c3, decide_eq_true c5]; rfl) ?_
        refine g_iinc (lv' := [(0, .ref ha), (1, .long T), (3, .long (ks_nS F T (k + 1))), (5, .int (nI (k + 1)))]) B dX0_neededOf_45 3 rfl (nI_1 k) (by decide) [1, 2, 3, 0] rfl ?_
        refine g_goto (tgt := 5) B dX0_neededOf_48 (by decide) ?_
        exact ih5 (k + 1) (by (try dsimp only); omega) (by (try dsimp only); omega)

set_option maxHeartbeats 4000000 in
set_option maxRecDepth 100000 in
theorem k_settle (l : Launch) {D : va_G} {cI cL cZ cQ : ClassId} (ha : Nat) (a0 : Nat) (a1 : Nat) (a2 : Nat) (a3 : Nat) (n : Nat) (S : Int64) (F : Nat → Int64) (hn : n ≤ 40) : WM l yX0_settle wsX0_settle ({ frames := 4, cells := 0, slots := 0, locals := 95 } : Room) D (gTys cI cL cZ cQ) [.ref ha] [(ha, .inr (0, [.ref a0, .ref a1, .ref a2, .ref a3, .int (nI n), .long S])), (a3, .inl (cL, 41, .inr (.inl F)))] (fun (_ : Unit) => True) (fun (_ : Unit) => none) (fun (_ : Unit) => [(ha, .inr (0, [.ref a0, .ref a1, .ref a2, .ref a3, .int (nI n), .long (ks_ch F n S)])), (a3, .inl (cL, 41, .inr (.inl F)))]) := by
  refine WM.ofG cX0_settle 2 none (by decide +kernel) rfl (Nat.le_of_ble_eq_true rfl) ?_
  intro p e s m below meth c A hA B hr hlocks hname hK hN
  refine g_iconst (v := (0 : Int32)) B dX0_settle_0 (by decide) ?_
  refine g_istore_n (lv' := [(0, .ref ha), (1, .int (0 : Int32))]) B dX0_settle_1 rfl (by decide) [1, 0] rfl ?_
  refine g_loop (σ := Nat) (fun x9 => x9 ≤ n) (fun x9 => 41 - x9) (fun x9 => 0) (fun x9 => 0) (fun x9 => [(ha, .inr (0, [.ref a0, .ref a1, .ref a2, .ref a3, .int (nI n), .long (ks_sS F S x9)])), (a3, .inl (cL, 41, .inr (.inl F)))]) (fun x9 => [(0, .ref ha), (1, .int (nI x9))]) (fun x9 hI ih2 => ?_) 0 (by (try dsimp only); omega) rfl rfl rfl rfl
  obtain ⟨k, e9⟩ : ∃ z, z = x9 := ⟨_, rfl⟩; subst e9
  try dsimp only at hI ih2 ⊢
  refine g_iload_n B dX0_settle_2 1 rfl ?_
  refine g_aload_n B dX0_settle_3 0 rfl ?_
  refine g_get (C := RX0) (T := TX0) (N := 6) (ci := 0) B hK hin_X0_settle_RX0 0 rfl rfl 4 (by decide) (List.mem_of_getElem? (i := 1) rfl) rfl (v := .int (nI n)) rfl dX0_settle_4 ?_
  refine g_ncmp_ge (tgt := 57) B k n rfl rfl (by omega) (by omega) dX0_settle_7 (by decide) (fun c1 => ?_) (fun c1 => ?_)
  · have hkn : k = n := by omega
    subst hkn
    refine g_aload_n B dX0_settle_57 0 rfl ?_
    refine g_aload_n B dX0_settle_58 0 rfl ?_
    refine g_aload_n B dX0_settle_59 0 rfl ?_
    refine g_get (C := RX0) (T := TX0) (N := 6) (ci := 0) B hK hin_X0_settle_RX0 0 rfl rfl 5 (by decide) (List.mem_of_getElem? (i := 2) rfl) rfl (v := .long (ks_sS F S k)) rfl dX0_settle_60 ?_
    refine g_callP (g_runV (q0 := 0) (ci := 0) B hK rfl rfl (PM.met (k_neededOf l (D := D) (cI := cI) (cL := cL) (cZ := cZ) (cQ := cQ) ha a0 a1 a2 a3 n (ks_sS F S k) F (ks_sS F S k) )) (gPp.pre (av := [.ref ha, .long (ks_sS F S k)]) (wc := [(ha, .inr (0, [.ref a0, .ref a1, .ref a2, .ref a3, .int (nI n), .long (ks_sS F S k)])), (a3, .inl (cL, 41, .inr (.inl F)))]) hK hN [0, 1] rfl (by decide)) gX0_settle_X0_neededOf rfl rfl kd_X0_neededOf ⟨by decide, by decide⟩ (st := [.ref ha]) rfl (Nat.le_of_ble_eq_true rfl) dX0_settle_63 ⟨by decide, by decide⟩) (fun u hu => ?_)
    refine g_put (C := RX0) (T := TX0) (N := 6) (ci := 0) B hK hin_X0_settle_RX0 0 rfl rfl 5 (by decide) tyX0 tyX0_ok nmX0 (List.mem_of_getElem? (i := 2) rfl) rfl rfl (ty := .long) (v := .long (ks_nS F (ks_sS F S k) 41)) (by decide +kernel) rfl rfl (Nat.le_of_ble_eq_true rfl) (w2 := [(ha, .inr (0, [.ref a0, .ref a1, .ref a2, .ref a3, .int (nI n), .long (ks_nS F (ks_sS F S k) 41)])), (a3, .inl (cL, 41, .inr (.inl F)))]) rfl (fun _ h => h) dX0_settle_66 ?_
    exact g_vret_w B hr hlocks () (rfl) (trivial) [0, 1] (by decide) rfl dX0_settle_69
  · refine g_iload_n B dX0_settle_10 1 rfl ?_
    refine g_bipush (v := (40 : Int32)) B dX0_settle_11 (by decide) ?_
    refine g_ncmp_ge (tgt := 57) B k 40 rfl rfl (by omega) (by omega) dX0_settle_13 (by decide) (fun c3 => ?_) (fun c3 => ?_)
    · exfalso; omega
    refine g_aload_n B dX0_settle_16 0 rfl ?_
    refine g_iload_n B dX0_settle_17 1 rfl ?_
    refine g_callP (g_runV (q0 := 0) (ci := 0) B hK rfl rfl (PM.met (k_isKept l (D := D) (cI := cI) (cL := cL) (cZ := cZ) (cQ := cQ) ha a0 a1 a2 a3 n (ks_sS F S k) k (by first | assumption | omega))) (gPp.pre (av := [.ref ha, .int (nI k)]) (wc := [(ha, .inr (0, [.ref a0, .ref a1, .ref a2, .ref a3, .int (nI n), .long (ks_sS F S k)]))]) hK hN [0] rfl (by decide)) gX0_settle_X0_isKept rfl rfl kd_X0_isKept ⟨by decide, by decide⟩ (st := []) rfl (Nat.le_of_ble_eq_true rfl) dX0_settle_18 ⟨by decide, by decide⟩) (fun u hu => ?_)
    refine g_bif_ne (tgt := 51) B dX0_settle_21 (by decide) (fun c5 => ?_) (fun c5 => ?_)
    · refine g_eqw (w2 := [(ha, .inr (0, [.ref a0, .ref a1, .ref a2, .ref a3, .int (nI n), .long (ks_sS F S (k + 1))])), (a3, .inl (cL, 41, .inr (.inl F)))]) (by rw [show ks_sS F S (k + 1) = (if !hasB (ks_sS F S k) k && !decide (ks_al F k (ks_sS F S k) = 0) then ks_sS F S k ||| lShl 1 (nI k) else ks_sS F S k) from rfl, c5]; rfl) ?_
      refine g_iinc (lv' := [(0, .ref ha), (1, .int (nI (k + 1)))]) B dX0_settle_51 1 rfl (nI_1 k) (by decide) [1, 0] rfl ?_
      refine g_goto (tgt := 2) B dX0_settle_54 (by decide) ?_
      exact ih2 (k + 1) (by (try dsimp only); omega) (by (try dsimp only); omega)
    · refine g_aload_n B dX0_settle_24 0 rfl ?_
      refine g_iload_n B dX0_settle_25 1 rfl ?_
      refine g_aload_n B dX0_settle_26 0 rfl ?_
      refine g_get (C := RX0) (T := TX0) (N := 6) (ci := 0) B hK hin_X0_settle_RX0 0 rfl rfl 5 (by decide) (List.mem_of_getElem? (i := 2) rfl) rfl (v := .long (ks_sS F S k)) rfl dX0_settle_27 ?_
      refine g_callP (g_runV (q0 := 0) (ci := 0) B hK rfl rfl (PM.met (k_foundAloneBy l (D := D) (cI := cI) (cL := cL) (cZ := cZ) (cQ := cQ) ha a0 a1 a2 a3 n (ks_sS F S k) F (ks_sS F S k) k (by first | assumption | omega))) (gPp.pre (av := [.ref ha, .int (nI k), .long (ks_sS F S k)]) (wc := [(ha, .inr (0, [.ref a0, .ref a1, .ref a2, .ref a3, .int (nI n), .long (ks_sS F S k)])), (a3, .inl (cL, 41, .inr (.inl F)))]) hK hN [0, 1] rfl (by decide)) gX0_settle_X0_foundAloneBy rfl rfl kd_X0_foundAloneBy ⟨by decide, by decide⟩ (st := []) rfl (Nat.le_of_ble_eq_true rfl) dX0_settle_30 ⟨by decide, by decide⟩) (fun u hu => ?_)
      refine g_lconst (v := (0 : Int64)) B dX0_settle_33 rfl ?_
      refine g_lcmp (v := (lg_cmp (ks_al F k (ks_sS F S k)) (0 : Int64))) B dX0_settle_34 rfl ?_
      refine g_lif_eq (tgt := 51) B dX0_settle_35 (by decide) (fun c7 => ?_) (fun c7 => ?_)
      · refine g_eqw (w2 := [(ha, .inr (0, [.ref a0, .ref a1, .ref a2, .ref a3, .int (nI n), .long (ks_sS F S (k + 1))])), (a3, .inl (cL, 41, .inr (.inl F)))]) (by rw [show ks_sS F S (k + 1) = (if !hasB (ks_sS F S k) k && !decide (ks_al F k (ks_sS F S k) = 0) then ks_sS F S k ||| lShl 1 (nI k) else ks_sS F S k) from rfl, c5, decide_eq_true c7]; rfl) ?_
        refine g_iinc (lv' := [(0, .ref ha), (1, .int (nI (k + 1)))]) B dX0_settle_51 1 rfl (nI_1 k) (by decide) [1, 0] rfl ?_
        refine g_goto (tgt := 2) B dX0_settle_54 (by decide) ?_
        exact ih2 (k + 1) (by (try dsimp only); omega) (by (try dsimp only); omega)
      · refine g_aload_n B dX0_settle_38 0 rfl ?_
        refine g_dup B dX0_settle_39 rfl ?_
        refine g_get (C := RX0) (T := TX0) (N := 6) (ci := 0) B hK hin_X0_settle_RX0 0 rfl rfl 5 (by decide) (List.mem_of_getElem? (i := 2) rfl) rfl (v := .long (ks_sS F S k)) rfl dX0_settle_40 ?_
        refine g_iload_n B dX0_settle_43 1 rfl ?_
        refine g_callP (g_runSN B hN (PM.met (k_bit l (D := D) (cI := cI) (cL := cL) (cZ := cZ) (cQ := cQ) k (by first | assumption | omega))) (gPp.pre (av := [.int (nI k)]) (wc := []) hK hN [] rfl (by decide)) gX0_settle_X5_bit_n37 (List.mem_of_getElem? (i := 9) rfl) (List.mem_of_getElem? (i := 17) rfl) 4 rfl rfl kd_X5_bit ⟨by decide, by decide⟩ (st := [.long (ks_sS F S k), .ref ha]) rfl (Nat.le_of_ble_eq_true rfl) dX0_settle_44 ⟨by decide, by decide⟩) (fun u hu => ?_)
        refine g_lor (v := ((ks_sS F S k) ||| (lShl 1 (nI k)))) B dX0_settle_47 (rfl) ?_
        refine g_put (C := RX0) (T := TX0) (N := 6) (ci := 0) B hK hin_X0_settle_RX0 0 rfl rfl 5 (by decide) tyX0 tyX0_ok nmX0 (List.mem_of_getElem? (i := 2) rfl) rfl rfl (ty := .long) (v := .long ((ks_sS F S k) ||| (lShl 1 (nI k)))) (by decide +kernel) rfl rfl (Nat.le_of_ble_eq_true rfl) (w2 := [(ha, .inr (0, [.ref a0, .ref a1, .ref a2, .ref a3, .int (nI n), .long ((ks_sS F S k) ||| (lShl 1 (nI k)))])), (a3, .inl (cL, 41, .inr (.inl F)))]) rfl (fun _ h => h) dX0_settle_48 ?_
        refine g_eqw (w2 := [(ha, .inr (0, [.ref a0, .ref a1, .ref a2, .ref a3, .int (nI n), .long (ks_sS F S (k + 1))])), (a3, .inl (cL, 41, .inr (.inl F)))]) (by rw [show ks_sS F S (k + 1) = (if !hasB (ks_sS F S k) k && !decide (ks_al F k (ks_sS F S k) = 0) then ks_sS F S k ||| lShl 1 (nI k) else ks_sS F S k) from rfl, c5, decide_eq_false c7]; rfl) ?_
        refine g_iinc (lv' := [(0, .ref ha), (1, .int (nI (k + 1)))]) B dX0_settle_51 1 rfl (nI_1 k) (by decide) [1, 0] rfl ?_
        refine g_goto (tgt := 2) B dX0_settle_54 (by decide) ?_
        exact ih2 (k + 1) (by (try dsimp only); omega) (by (try dsimp only); omega)

