set_option maxHeartbeats 400000 in
set_option maxRecDepth 100000 in
theorem b_told (l : Launch) {D : va_G} {cI cL cZ cQ : ClassId} (ar : Nat) (k : Nat) (la : Nat) (f : Nat → Int32) (hk : k ≤ 30) : WM l yX6_told wsX6_told ({ frames := 1, cells := 1, slots := 31, locals := 60 } : Room) D (gTys cI cL cZ cQ) [.ref ar, .int (nI k), .int (nI la)] [(ar, .inl (cI, 31, .inl f))] (fun (q : Nat × (Nat → Int32)) => (∀ j, j < k → q.2 j = f j) ∧ q.2 k = nI la) (fun (q : Nat × (Nat → Int32)) => some (.ref q.1)) (fun (q : Nat × (Nat → Int32)) => [(ar, .inl (cI, 31, .inl f)), (q.1, .inl (cI, (k + 1), .inl q.2))]) := by
  refine WM.ofG cX6_told 4 (some (.array .int)) (by decide +kernel) rfl (Nat.le_of_ble_eq_true rfl) ?_
  intro p e s m below meth c A hA B hr hlocks hname hK hN
  refine g_iload_n B dX6_told_0 1 rfl ?_
  refine g_iconst (v := (1 : Int32)) B dX6_told_1 (by decide) ?_
  refine g_iadd (v := nI (k + 1)) B dX6_told_2 (nI_add k 1) ?_
  refine g_newa B hK hA 0 rfl rfl (List.mem_of_getElem? (i := 1) rfl) rfl ((k + 1), .inl (fun _ => (0 : Int32))) (cellI_new (k + 1)) (nI_pos (by omega)) (nI_clamp (by omega)) (by show _ * _ ≤ _; simp only [componentBytes]; omega) (by (try dsimp only); omega) (by (try dsimp only); omega) dX6_told_3 (fun q1 => ?_)
  refine g_eqw (w2 := [(ar, .inl (cI, 31, .inl f)), (q1, .inl (cI, (k + 1), .inl (fun _ => (0 : Int32))))]) rfl ?_
  refine g_astore_n (lv' := [(0, .ref ar), (1, .int (nI k)), (2, .int (nI la)), (3, .ref q1)]) B dX6_told_5 rfl (by decide) [1, 2, 3, 0] rfl ?_
  refine g_aload_n B dX6_told_6 0 rfl ?_
  refine g_iconst (v := (0 : Int32)) B dX6_told_7 (by decide) ?_
  refine g_aload_n B dX6_told_8 3 rfl ?_
  refine g_iconst (v := (0 : Int32)) B dX6_told_9 (by decide) ?_
  refine g_iload_n B dX6_told_10 1 rfl ?_
  refine g_copyi B hK (List.mem_of_getElem? (i := 2) rfl) (List.mem_of_getElem? (i := 3) rfl) (List.mem_of_getElem? (i := 4) rfl) (List.mem_of_getElem? (i := 5) rfl) 0 1 0 rfl rfl rfl rfl 0 0 k rfl rfl rfl (by omega) (by omega) (by omega) (fun _ _ => rfl) (va_cpy f (fun _ => (0 : Int32)) 0 0 k) (fun _ _ => rfl) (w2 := [(ar, .inl (cI, 31, .inl f)), (q1, .inl (cI, (k + 1), .inl (va_cpy f (fun _ => (0 : Int32)) 0 0 k)))]) rfl (fun _ h => h) (by decide) (by decide) dX6_told_11 ?_
  refine g_aload_n B dX6_told_14 3 rfl ?_
  refine g_iload_n B dX6_told_15 1 rfl ?_
  refine g_iload_n B dX6_told_16 2 rfl ?_
  refine g_iast B hK 1 0 rfl rfl k rfl (by omega) (by omega) (f2 := (upd (va_cpy f (fun _ => (0 : Int32)) 0 0 k) k (nI la))) (rfl) (w2 := [(ar, .inl (cI, 31, .inl f)), (q1, .inl (cI, (k + 1), .inl (upd (va_cpy f (fun _ => (0 : Int32)) 0 0 k) k (nI la))))]) rfl (fun _ h => h) dX6_told_17 ?_
  refine g_aload_n B dX6_told_18 3 rfl ?_
  refine g_widen (k := 1) (n := 31) (by (try dsimp only); omega) (by (try dsimp only); omega) ?_
  exact g_aret_w B hr (Or.inr ⟨_, rfl⟩) hlocks (q1, (upd (va_cpy f (fun _ => (0 : Int32)) 0 0 k) k (nI la))) (rfl) (by (try dsimp only); exact ⟨fun j hj => by rw [pk_un (by omega), pk_cpy_in (by omega) (by omega)]; congr 1; omega, pk_us⟩) [0, 1] (by decide) (by (try dsimp only) <;> rfl) dX6_told_19

