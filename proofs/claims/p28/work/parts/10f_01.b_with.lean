set_option maxHeartbeats 400000 in
set_option maxRecDepth 100000 in
theorem b_with (l : Launch) {D : va_G} {cI cL cZ cQ : ClassId} (aw : Nat) (mo : Nat) (mz : Nat) (f : Nat → Option Nat) (g : Nat → Int32) (n1 : Nat) (n2 : Nat) (n3 : Nat) (n4 : Nat) (na : Nat → Nat) (wa : Nat → Nat) (ra : Nat → Nat) (ka : Nat → Nat) (z1 : Nat → Nat → Int32) (z2 : Nat → Nat → Int32) (z3 : Nat → Nat → Int32) (z4 : Nat → Nat → Int32) (hm : mz ≤ 40) (hel : ∀ i, i < mz → ∃ (y qk : Nat) (x : vp_A), f i = some y ∧ (tl_T cI n1 na z1 n2 wa z2 n3 ra z3 n4 ka z4)[qk]? = some (y, .inl (cI, x))) : WM l yX6_with wsX6_with ({ frames := 1, cells := 1, slots := mz + 1, locals := 60 } : Room) D (gTys cI cL cZ cQ) [.ref aw, .ref mo] ([(aw, .inl (cQ, mz, .inr (.inr (.inr (.inr f))))), (mo, .inl (cI, 3, .inl g))] ++ (tl_T cI n1 na z1 n2 wa z2 n3 ra z3 n4 ka z4)) (fun (q : Nat × (Nat → Option Nat)) => (∀ j, j < mz → q.2 j = f j) ∧ q.2 mz = some mo) (fun (q : Nat × (Nat → Option Nat)) => some (.ref q.1)) (fun (q : Nat × (Nat → Option Nat)) => ([(aw, .inl (cQ, mz, .inr (.inr (.inr (.inr f))))), (mo, .inl (cI, 3, .inl g)), (q.1, .inl (cQ, (mz + 1), .inr (.inr (.inr (.inr q.2)))))] ++ (tl_T cI n1 na z1 n2 wa z2 n3 ra z3 n4 ka z4))) := by
  refine WM.ofG cX6_with 3 (some (.array (.array .int))) (by decide +kernel) rfl (Nat.le_of_ble_eq_true rfl) ?_
  intro p e s m below meth c A hA B hr hlocks hname hK hN
  refine g_aload_n B dX6_with_0 0 rfl ?_
  refine g_alen (v := nI mz) B hK 0 3 rfl rfl rfl dX6_with_1 ?_
  refine g_iconst (v := (1 : Int32)) B dX6_with_2 (by decide) ?_
  refine g_iadd (v := nI (mz + 1)) B dX6_with_3 (nI_add mz 1) ?_
  refine g_qnew (N' := (mz + 1)) B hK hN hA 3 rfl (List.mem_of_getElem? (i := 1) rfl) (nI_pos (by omega)) (nI_clamp (by omega)) (by omega) (by (try dsimp only); omega) (by (try dsimp only); omega) dX6_with_4 (fun q1 => ?_)
  refine g_perm (tl_sw _ _ _) ?_
  refine g_eqw (w2 := ([(aw, .inl (cQ, mz, .inr (.inr (.inr (.inr f))))), (mo, .inl (cI, 3, .inl g)), (q1, .inl (cQ, (mz + 1), .inr (.inr (.inr (.inr (fun _ => none))))))] ++ (tl_T cI n1 na z1 n2 wa z2 n3 ra z3 n4 ka z4))) rfl ?_
  refine g_astore_n (lv' := [(0, .ref aw), (1, .ref mo), (2, .ref q1)]) B dX6_with_7 rfl (by decide) [1, 2, 0] rfl ?_
  refine g_aload_n B dX6_with_8 0 rfl ?_
  refine g_iconst (v := (0 : Int32)) B dX6_with_9 (by decide) ?_
  refine g_aload_n B dX6_with_10 2 rfl ?_
  refine g_iconst (v := (0 : Int32)) B dX6_with_11 (by decide) ?_
  refine g_aload_n B dX6_with_12 0 rfl ?_
  refine g_alen (v := nI mz) B hK 0 3 rfl rfl rfl dX6_with_13 ?_
  refine g_qcopy B hK hN (List.mem_of_getElem? (i := 2) rfl) (List.mem_of_getElem? (i := 3) rfl) (List.mem_of_getElem? (i := 4) rfl) (List.mem_of_getElem? (i := 5) rfl) 0 2 3 0 rfl rfl rfl rfl mz rfl (by omega) (by omega) (by omega) (fun i hi => by obtain ⟨y, qk, x, h1, h2⟩ := hel i hi; exact ⟨y, _, x, h1, (app_get _ _ qk).trans h2⟩) (w2 := ([(aw, .inl (cQ, mz, .inr (.inr (.inr (.inr f))))), (mo, .inl (cI, 3, .inl g)), (q1, .inl (cQ, (mz + 1), .inr (.inr (.inr (.inr (va_cpy f (fun _ => none) 0 0 mz))))))] ++ (tl_T cI n1 na z1 n2 wa z2 n3 ra z3 n4 ka z4))) rfl (fun _ h => h) (Nat.le_of_ble_eq_true rfl) (Nat.le_of_ble_eq_true rfl) dX6_with_14 ?_
  refine g_aload_n B dX6_with_17 2 rfl ?_
  refine g_aload_n B dX6_with_18 0 rfl ?_
  refine g_alen (v := nI mz) B hK 0 3 rfl rfl rfl dX6_with_19 ?_
  refine g_aload_n B dX6_with_20 1 rfl ?_
  refine g_qast B hK hN 2 3 1 0 rfl rfl rfl rfl mz rfl (by omega) (by omega) (f2 := (va_up (va_cpy f (fun _ => none) 0 0 mz) mz (some mo))) rfl (w2 := ([(aw, .inl (cQ, mz, .inr (.inr (.inr (.inr f))))), (mo, .inl (cI, 3, .inl g)), (q1, .inl (cQ, (mz + 1), .inr (.inr (.inr (.inr (va_up (va_cpy f (fun _ => none) 0 0 mz) mz (some mo)))))))] ++ (tl_T cI n1 na z1 n2 wa z2 n3 ra z3 n4 ka z4))) rfl (fun _ h => h) dX6_with_21 ?_
  refine g_aload_n B dX6_with_22 2 rfl ?_
  refine g_widen (k := 1) (n := mz + 1) (by (try dsimp only); omega) (by (try dsimp only); omega) ?_
  refine g_subT (X2 := [(aw, .inl (cQ, mz, .inr (.inr (.inr (.inr f))))), (mo, .inl (cI, 3, .inl g)), (q1, .inl (cQ, (mz + 1), .inr (.inr (.inr (.inr (va_up (va_cpy f (fun _ => none) 0 0 mz) mz (some mo)))))))]) [0, 1, 2] (by decide) rfl ?_
  exact g_aret_x B hr (Or.inr ⟨_, rfl⟩) hlocks (q1, (va_up (va_cpy f (fun _ => none) 0 0 mz) mz (some mo))) (rfl) (by (try dsimp only); exact ⟨fun j hj => by rw [va_up_ne _ _ (by omega), pk_cpy_in (by omega) (by omega)]; congr 1; omega, va_up_self _ _ _⟩) (by (try dsimp only) <;> rfl) dX6_with_23

