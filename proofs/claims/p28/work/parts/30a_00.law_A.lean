set_option maxHeartbeats 4000000 in
set_option maxRecDepth 100000 in
theorem law_A {p : Program} {l : Launch} {e : Env} {s : State} {m : MethodId} {args : Array Value} {below : List Frame} {meth : Method} {c : Code} {Z : State → Prop} {D : va_G} {A : Nat → Prop} {cI cL cZ cQ : ClassId} (hA : ∀ q, s.heap.size ≤ q → A q) (B : CallFix p m c cL_law 18 s args wsL_law RL) (hK : va_K D vwCl (gTys cI cL cZ cQ) s) (hN : NWs s) {b L : Nat} {xs : Nat → Int32} (hX : va_X b L xs s s.heap) (hbl : b < s.heap.size) (hbA : ¬ A b) (hL : L ≤ 260) {nc ns : Nat} (hnc : nc ≤ 560000) (hns : ns ≤ 7000000) (gb : Nat) (gn : Nat) (gv : Nat) (gk : Nat) (gr : Nat) (hb : Nat) (hp : Nat) (ht : Nat) (hg : Nat) (ha : Nat) (hq : Nat) (dw : Nat) (sd : Nat) (ac : Nat) (na : Nat → Nat) (wa : Nat → Nat) (ra : Nat → Nat) (ka : Nat → Nat) (p0 : Nat) (p1 : Nat) (p2 : Nat) (p3 : Nat) (p4 : Nat) (P : Pg) (t0 : Nat) (fp : Nat → Int32) (ts : Int32) (tr : Int32) (tf : Int64) (g0 : Nat) (g1 : Nat) (g2 : Nat) (W : Wg) (a0 : Nat) (a1 : Nat) (a2 : Nat) (a3 : Nat) (n : Nat) (S : Int64) (f0 : Nat → Int32) (f1 : Nat → Int32) (F : Nat → Int64) (mu : Nat → Nat) (t : Nat → Nat) (r0 : Nat) (r1 : Nat) (r2 : Nat) (Q : Rg) (rc : Nat) (tm sp kk : Nat) (bf : Int64) (hI : ks_LI P W sd t mu n S Q rc ac f0 f1 F) (hd : dw < 2 ^ 18) (hac : ac ≤ 800) (hT : ∀ (dw2 ca : Nat) (fp2 : Nat → Int32) (ts2 tr2 : Int32) (tf2 : Int64), dw2 ≤ dw + 1 → ca < 10000 → G p l e ({ frames := 2048, cells := 600104, slots := 7301314, locals := 84000 } : Room) s m args below meth c Z D A A 18 (nc + 0) (ns + 0) ([(gb, .inr (6, [.ref hb, .ref b, .int (nI dw2), .ref gn, .ref gv, .int (nI sd), .ref gk, .ref gr])), (gn, .inl (cQ, 12, .inr (.inr (.inr (.inr (fun i => some (na i))))))), (gv, .inl (cQ, 4, .inr (.inr (.inr (.inr (fun i => some (wa i))))))), (gk, .inl (cQ, n, .inr (.inr (.inr (.inr (fun i => some (ka i))))))), (gr, .inl (cQ, rc, .inr (.inr (.inr (.inr (fun i => some (ra i))))))), (hb, .inr (5, [.ref hp, .ref ht, .ref hg, .ref ha, .ref hq])), (hp, .inr (2, [.ref p0, .ref p1, .ref p2, .ref p3, .ref p4])), (p0, .inl (cI, 12, .inl (fun i => nI (P.1 i)))), (p1, .inl (cI, 12, .inl (fun i => nI (P.2.1 i)))), (p2, .inl (cI, 12, .inl (fun i => nI (P.2.2.1 i)))), (p3, .inl (cI, 24, .inl (fun i => ks_tI (P.2.2.2.1 i)))), (p4, .inl (cZ, 12, .inl (fun i => bI (P.2.2.2.2 i)))), (ht, .inr (4, [.ref t0, .int ts2, .int tr2, .long tf2])), (t0, .inl (cI, 30, .inl fp2)), (hg, .inr (1, [.ref g0, .ref g1, .ref g2, .int (nI sd)])), (g0, .inl (cI, 4, .inl (fun i => nI (W.1 i)))), (g1, .inl (cI, 4, .inl (fun i => nI (W.2.1 i)))), (g2, .inl (cI, 4, .inl (fun i => nI (W.2.2 i)))), (ha, .inr (0, [.ref a0, .ref a1, .ref a2, .ref a3, .int (nI n), .long S])), (a0, .inl (cI, 41, .inl f0)), (a1, .inl (cI, 41, .inl f1)), (a2, .inl (cI, 41, .inl (fun i => nI (mu i)))), (a3, .inl (cL, 41, .inr (.inl F))), (hq, .inr (3, [.ref r0, .ref r1, .ref r2, .int (nI rc)])), (r0, .inl (cI, 6, .inl (fun i => nI (Q.1 i)))), (r1, .inl (cI, 6, .inl (fun i => nI (Q.2.1 i)))), (r2, .inl (cI, 6, .inl (fun i => nI (Q.2.2 i))))] ++ (tl_T cI 12 na (ks_nr P) 4 wa (ks_wr W) rc ra (ks_rr Q) n ka (ks_kn t S mu))) [(0, .ref b), (1, .int (nI tm)), (2, .ref gb), (3, .ref hb), (4, .int (nI sp)), (5, .long bf), (7, .int (nI kk)), (8, .int (nI ca)), (9, .int (nI (ks_rs P ca)))] 298 []) : G p l e ({ frames := 2048, cells := 600104, slots := 7301314, locals := 84000 } : Room) s m args below meth c Z D A A 18 (nc) (ns) ([(gb, .inr (6, [.ref hb, .ref b, .int (nI dw), .ref gn, .ref gv, .int (nI sd), .ref gk, .ref gr])), (gn, .inl (cQ, 12, .inr (.inr (.inr (.inr (fun i => some (na i))))))), (gv, .inl (cQ, 4, .inr (.inr (.inr (.inr (fun i => some (wa i))))))), (gk, .inl (cQ, n, .inr (.inr (.inr (.inr (fun i => some (ka i))))))), (gr, .inl (cQ, rc, .inr (.inr (.inr (.inr (fun i => some (ra i))))))), (hb, .inr (5, [.ref hp, .ref ht, .ref hg, .ref ha, .ref hq])), (hp, .inr (2, [.ref p0, .ref p1, .ref p2, .ref p3, .ref p4])), (p0, .inl (cI, 12, .inl (fun i => nI (P.1 i)))), (p1, .inl (cI, 12, .inl (fun i => nI (P.2.1 i)))), (p2, .inl (cI, 12, .inl (fun i => nI (P.2.2.1 i)))), (p3, .inl (cI, 24, .inl (fun i => ks_tI (P.2.2.2.1 i)))), (p4, .inl (cZ, 12, .inl (fun i => bI (P.2.2.2.2 i)))), (ht, .inr (4, [.ref t0, .int ts, .int tr, .long tf])), (t0, .inl (cI, 30, .inl fp)), (hg, .inr (1, [.ref g0, .ref g1, .ref g2, .int (nI sd)])), (g0, .inl (cI, 4, .inl (fun i => nI (W.1 i)))), (g1, .inl (cI, 4, .inl (fun i => nI (W.2.1 i)))), (g2, .inl (cI, 4, .inl (fun i => nI (W.2.2 i)))), (ha, .inr (0, [.ref a0, .ref a1, .ref a2, .ref a3, .int (nI n), .long S])), (a0, .inl (cI, 41, .inl f0)), (a1, .inl (cI, 41, .inl f1)), (a2, .inl (cI, 41, .inl (fun i => nI (mu i)))), (a3, .inl (cL, 41, .inr (.inl F))), (hq, .inr (3, [.ref r0, .ref r1, .ref r2, .int (nI rc)])), (r0, .inl (cI, 6, .inl (fun i => nI (Q.1 i)))), (r1, .inl (cI, 6, .inl (fun i => nI (Q.2.1 i)))), (r2, .inl (cI, 6, .inl (fun i => nI (Q.2.2 i))))] ++ (tl_T cI 12 na (ks_nr P) 4 wa (ks_wr W) rc ra (ks_rr Q) n ka (ks_kn t S mu))) [(0, .ref b), (1, .int (nI tm)), (2, .ref gb), (3, .ref hb), (4, .int (nI sp)), (5, .long bf), (7, .int (nI kk))] 85 [] := by
  have hI0 := hI
  obtain ⟨hW, hw, hsd, hn16, hAO, hap, hIk, hma, hmu0, hq1, hr2⟩ := hI
  have hS : ks_SK n S := hIk.1
  have ht4 : ∀ i, i < n → t i < 10000 := fun i hi => (hAO i hi).2.1
  have hmu : ∀ i, mu i < 1000 := fun i => by have := hma i; omega
  refine g_aload_n B dL_law_85 2 rfl ?_
  refine g_sipush (v := (10000 : Int32)) B dL_law_86 (by decide) ?_
  refine g_callU (w2 := (fun (r_1 : Nat) => [(gb, .inr (6, [.ref hb, .ref b, .int (nI (dw + 1)), .ref gn, .ref gv, .int (nI sd), .ref gk, .ref gr])), (gn, .inl (cQ, 12, .inr (.inr (.inr (.inr (fun i => some (na i))))))), (gv, .inl (cQ, 4, .inr (.inr (.inr (.inr (fun i => some (wa i))))))), (gk, .inl (cQ, n, .inr (.inr (.inr (.inr (fun i => some (ka i))))))), (gr, .inl (cQ, rc, .inr (.inr (.inr (.inr (fun i => some (ra i))))))), (hb, .inr (5, [.ref hp, .ref ht, .ref hg, .ref ha, .ref hq])), (hp, .inr (2, [.ref p0, .ref p1, .ref p2, .ref p3, .ref p4])), (p0, .inl (cI, 12, .inl (fun i => nI (P.1 i)))), (p1, .inl (cI, 12, .inl (fun i => nI (P.2.1 i)))), (p2, .inl (cI, 12, .inl (fun i => nI (P.2.2.1 i)))), (p3, .inl (cI, 24, .inl (fun i => ks_tI (P.2.2.2.1 i)))), (p4, .inl (cZ, 12, .inl (fun i => bI (P.2.2.2.2 i)))), (ht, .inr (4, [.ref t0, .int ts, .int tr, .long tf])), (t0, .inl (cI, 30, .inl fp)), (hg, .inr (1, [.ref g0, .ref g1, .ref g2, .int (nI sd)])), (g0, .inl (cI, 4, .inl (fun i => nI (W.1 i)))), (g1, .inl (cI, 4, .inl (fun i => nI (W.2.1 i)))), (g2, .inl (cI, 4, .inl (fun i => nI (W.2.2 i)))), (ha, .inr (0, [.ref a0, .ref a1, .ref a2, .ref a3, .int (nI n), .long S])), (a0, .inl (cI, 41, .inl f0)), (a1, .inl (cI, 41, .inl f1)), (a2, .inl (cI, 41, .inl (fun i => nI (mu i)))), (a3, .inl (cL, 41, .inr (.inl F))), (hq, .inr (3, [.ref r0, .ref r1, .ref r2, .int (nI rc)])), (r0, .inl (cI, 6, .inl (fun i => nI (Q.1 i)))), (r1, .inl (cI, 6, .inl (fun i => nI (Q.2.1 i)))), (r2, .inl (cI, 6, .inl (fun i => nI (Q.2.2 i))))])) (g_runV (q0 := 0) (ci := 6) B hK rfl rfl (b_any l (D := D) (cI := cI) (cL := cL) (cZ := cZ) (cQ := cQ) gb gn gv gk gr hb dw sd 10000 (by first | with_reducible assumption | omega | assumption) (by first | with_reducible assumption | omega | assumption) (by first | with_reducible assumption | omega | assumption) (by first | with_reducible assumption | omega | assumption)) (gPe.pre (av := [.ref gb, .int (10000 : Int32)]) (wc := [(gb, .inr (6, [.ref hb, .ref b, .int (nI dw), .ref gn, .ref gv, .int (nI sd), .ref gk, .ref gr]))]) hX hbl hbA hA hK hN [0] rfl (by decide)) gL_law_X6_any rfl rfl kd_X6_any ⟨Nat.le_of_ble_eq_true rfl, Nat.le_of_ble_eq_true rfl⟩ (st := []) rfl (Nat.le_of_ble_eq_true rfl) dL_law_89 ⟨by (try dsimp only); omega, by (try dsimp only); omega⟩) hA (fun _ h => h) [0] [1, 2, 3, 4, 5, 6, 7, 8, 9, 10, 11, 12, 13, 14, 15, 16, 17, 18, 19, 20, 21, 22, 23, 24, 25, 26] (wr := [(gn, .inl (cQ, 12, .inr (.inr (.inr (.inr (fun i => some (na i))))))), (gv, .inl (cQ, 4, .inr (.inr (.inr (.inr (fun i => some (wa i))))))), (gk, .inl (cQ, n, .inr (.inr (.inr (.inr (fun i => some (ka i))))))), (gr, .inl (cQ, rc, .inr (.inr (.inr (.inr (fun i => some (ra i))))))), (hb, .inr (5, [.ref hp, .ref ht, .ref hg, .ref ha, .ref hq])), (hp, .inr (2, [.ref p0, .ref p1, .ref p2, .ref p3, .ref p4])), (p0, .inl (cI, 12, .inl (fun i => nI (P.1 i)))), (p1, .inl (cI, 12, .inl (fun i => nI (P.2.1 i)))), (p2, .inl (cI, 12, .inl (fun i => nI (P.2.2.1 i)))), (p3, .inl (cI, 24, .inl (fun i => ks_tI (P.2.2.2.1 i)))), (p4, .inl (cZ, 12, .inl (fun i => bI (P.2.2.2.2 i)))), (ht, .inr (4, [.ref t0, .int ts, .int tr, .long tf])), (t0, .inl (cI, 30, .inl fp)), (hg, .inr (1, [.ref g0, .ref g1, .ref g2, .int (nI sd)])), (g0, .inl (cI, 4, .inl (fun i => nI (W.1 i)))), (g1, .inl (cI, 4, .inl (fun i => nI (W.2.1 i)))), (g2, .inl (cI, 4, .inl (fun i => nI (W.2.2 i)))), (ha, .inr (0, [.ref a0, .ref a1, .ref a2, .ref a3, .int (nI n), .long S])), (a0, .inl (cI, 41, .inl f0)), (a1, .inl (cI, 41, .inl f1)), (a2, .inl (cI, 41, .inl (fun i => nI (mu i)))), (a3, .inl (cL, 41, .inr (.inl F))), (hq, .inr (3, [.ref r0, .ref r1, .ref r2, .int (nI rc)])), (r0, .inl (cI, 6, .inl (fun i => nI (Q.1 i)))), (r1, .inl (cI, 6, .inl (fun i => nI (Q.2.1 i)))), (r2, .inl (cI, 6, .inl (fun i => nI (Q.2.2 i))))]) rfl rfl (by decide) (by decide) [26, 0, 1, 2, 3, 4, 5, 6, 7, 8, 9, 10, 11, 12, 13, 14, 15, 16, 17, 18, 19, 20, 21, 22, 23, 24, 25] (by decide) (fun _ => rfl) (fun u hu => ?_)
  obtain ⟨r_1, e9⟩ : ∃ z, z = u := ⟨_, rfl⟩; subst e9
  try dsimp only at hu ⊢
  have hu1 := hu
  refine g_istore (lv' := [(0, .ref b), (1, .int (nI tm)), (2, .ref gb), (3, .ref hb), (4, .int (nI sp)), (5, .long bf), (7, .int (nI kk)), (8, .int (nI r_1))]) B dL_law_92 (by decide) [1, 2, 3, 4, 5, 6, 7, 0] rfl ?_
  refine g_aload_n B dL_law_94 3 rfl ?_
  refine g_iload B dL_law_95 7 rfl ?_
  refine g_callU (w2 := (fun (fp2_2 : Nat → Int32) => [(gb, .inr (6, [.ref hb, .ref b, .int (nI (dw + 1)), .ref gn, .ref gv, .int (nI sd), .ref gk, .ref gr])), (gn, .inl (cQ, 12, .inr (.inr (.inr (.inr (fun i => some (na i))))))), (gv, .inl (cQ, 4, .inr (.inr (.inr (.inr (fun i => some (wa i))))))), (gk, .inl (cQ, n, .inr (.inr (.inr (.inr (fun i => some (ka i))))))), (gr, .inl (cQ, rc, .inr (.inr (.inr (.inr (fun i => some (ra i))))))), (hb, .inr (5, [.ref hp, .ref ht, .ref hg, .ref ha, .ref hq])), (hp, .inr (2, [.ref p0, .ref p1, .ref p2, .ref p3, .ref p4])), (p0, .inl (cI, 12, .inl (fun i => nI (P.1 i)))), (p1, .inl (cI, 12, .inl (fun i => nI (P.2.1 i)))), (p2, .inl (cI, 12, .inl (fun i => nI (P.2.2.1 i)))), (p3, .inl (cI, 24, .inl (fun i => ks_tI (P.2.2.2.1 i)))), (p4, .inl (cZ, 12, .inl (fun i => bI (P.2.2.2.2 i)))), (ht, .inr (4, [.ref t0, .int (nI (ks_st P r_1)), .int (nI (ks_rs P r_1)), .long (ks_fd P r_1)])), (t0, .inl (cI, 30, .inl fp2_2)), (hg, .inr (1, [.ref g0, .ref g1, .ref g2, .int (nI sd)])), (g0, .inl (cI, 4, .inl (fun i => nI (W.1 i)))), (g1, .inl (cI, 4, .inl (fun i => nI (W.2.1 i)))), (g2, .inl (cI, 4, .inl (fun i => nI (W.2.2 i)))), (ha, .inr (0, [.ref a0, .ref a1, .ref a2, .ref a3, .int (nI n), .long S])), (a0, .inl (cI, 41, .inl f0)), (a1, .inl (cI, 41, .inl f1)), (a2, .inl (cI, 41, .inl (fun i => nI (mu i)))), (a3, .inl (cL, 41, .inr (.inl F))), (hq, .inr (3, [.ref r0, .ref r1, .ref r2, .int (nI rc)])), (r0, .inl (cI, 6, .inl (fun i => nI (Q.1 i)))), (r1, .inl (cI, 6, .inl (fun i => nI (Q.2.1 i)))), (r2, .inl (cI, 6, .inl (fun i => nI (Q.2.2 i))))])) (g_runV (q0 := 5) (ci := 5) B hK rfl rfl (k_run l (D := D) (cI := cI) (cL := cL) (cZ := cZ) (cQ := cQ) hb hp ht hg ha hq p0 p1 p2 p3 p4 P t0 fp ts tr tf r_1 (by first | with_reducible assumption | omega | assumption) (by first | with_reducible assumption | omega | assumption)) (gPw.pre (av := [.ref hb, .int (nI r_1)]) (wc := [(hb, .inr (5, [.ref hp, .ref ht, .ref hg, .ref ha, .ref hq])), (hp, .inr (2, [.ref p0, .ref p1, .ref p2, .ref p3, .ref p4])), (p0, .inl (cI, 12, .inl (fun i => nI (P.1 i)))), (p1, .inl (cI, 12, .inl (fun i => nI (P.2.1 i)))), (p2, .inl (cI, 12, .inl (fun i => nI (P.2.2.1 i)))), (p3, .inl (cI, 24, .inl (fun i => ks_tI (P.2.2.2.1 i)))), (p4, .inl (cZ, 12, .inl (fun i => bI (P.2.2.2.2 i)))), (ht, .inr (4, [.ref t0, .int ts, .int tr, .long tf])), (t0, .inl (cI, 30, .inl fp))]) hK hN [5, 6, 7, 8, 9, 10, 11, 12, 13] rfl (by decide)) gL_law_X5_run rfl rfl kd_X5_run ⟨Nat.le_of_ble_eq_true rfl, Nat.le_of_ble_eq_true rfl⟩ (st := []) rfl (Nat.le_of_ble_eq_true rfl) dL_law_97 ⟨by (try dsimp only); omega, by (try dsimp only); omega⟩) hA (fun _ h => h) [5, 6, 7, 8, 9, 10, 11, 12, 13] [0, 1, 2, 3, 4, 14, 15, 16, 17, 18, 19, 20, 21, 22, 23, 24, 25, 26] (wr := [(gb, .inr (6, [.ref hb, .ref b, .int (nI (dw + 1)), .ref gn, .ref gv, .int (nI sd), .ref gk, .ref gr])), (gn, .inl (cQ, 12, .inr (.inr (.inr (.inr (fun i => some (na i))))))), (gv, .inl (cQ, 4, .inr (.inr (.inr (.inr (fun i => some (wa i))))))), (gk, .inl (cQ, n, .inr (.inr (.inr (.inr (fun i => some (ka i))))))), (gr, .inl (cQ, rc, .inr (.inr (.inr (.inr (fun i => some (ra i))))))), (hg, .inr (1, [.ref g0, .ref g1, .ref g2, .int (nI sd)])), (g0, .inl (cI, 4, .inl (fun i => nI (W.1 i)))), (g1, .inl (cI, 4, .inl (fun i => nI (W.2.1 i)))), (g2, .inl (cI, 4, .inl (fun i => nI (W.2.2 i)))), (ha, .inr (0, [.ref a0, .ref a1, .ref a2, .ref a3, .int (nI n), .long S])), (a0, .inl (cI, 41, .inl f0)), (a1, .inl (cI, 41, .inl f1)), (a2, .inl (cI, 41, .inl (fun i => nI (mu i)))), (a3, .inl (cL, 41, .inr (.inl F))), (hq, .inr (3, [.ref r0, .ref r1, .ref r2, .int (nI rc)])), (r0, .inl (cI, 6, .inl (fun i => nI (Q.1 i)))), (r1, .inl (cI, 6, .inl (fun i => nI (Q.2.1 i)))), (r2, .inl (cI, 6, .inl (fun i => nI (Q.2.2 i))))]) rfl rfl (by decide) (by decide) [0, 1, 2, 3, 4, 18, 19, 20, 21, 22, 23, 24, 25, 26, 5, 6, 7, 8, 9, 10, 11, 12, 13, 14, 15, 16, 17] (by decide) (fun _ => rfl) (fun u hu => ?_)
  obtain ⟨fp2_2, e9⟩ : ∃ z, z = u := ⟨_, rfl⟩; subst e9
  try dsimp only at hu ⊢
  refine g_istore (lv' := [(0, .ref b), (1, .int (nI tm)), (2, .ref gb), (3, .ref hb), (4, .int (nI sp)), (5, .long bf), (7, .int (nI kk)), (8, .int (nI r_1)), (9, .int (nI (ks_rs P r_1)))]) B dL_law_100 (by decide) [1, 2, 3, 4, 5, 6, 7, 8, 0] rfl ?_
  refine g_aload_n B dL_law_102 3 rfl ?_
  refine g_iload B dL_law_103 7 rfl ?_
  refine g_callU (w2 := (fun (fp2_3 : Nat → Int32) => [(gb, .inr (6, [.ref hb, .ref b, .int (nI (dw + 1)), .ref gn, .ref gv, .int (nI sd), .ref gk, .ref gr])), (gn, .inl (cQ, 12, .inr (.inr (.inr (.inr (fun i => some (na i))))))), (gv, .inl (cQ, 4, .inr (.inr (.inr (.inr (fun i => some (wa i))))))), (gk, .inl (cQ, n, .inr (.inr (.inr (.inr (fun i => some (ka i))))))), (gr, .inl (cQ, rc, .inr (.inr (.inr (.inr (fun i => some (ra i))))))), (hb, .inr (5, [.ref hp, .ref ht, .ref hg, .ref ha, .ref hq])), (hp, .inr (2, [.ref p0, .ref p1, .ref p2, .ref p3, .ref p4])), (p0, .inl (cI, 12, .inl (fun i => nI (P.1 i)))), (p1, .inl (cI, 12, .inl (fun i => nI (P.2.1 i)))), (p2, .inl (cI, 12, .inl (fun i => nI (P.2.2.1 i)))), (p3, .inl (cI, 24, .inl (fun i => ks_tI (P.2.2.2.1 i)))), (p4, .inl (cZ, 12, .inl (fun i => bI (P.2.2.2.2 i)))), (ht, .inr (4, [.ref t0, .int (nI (ks_st P r_1)), .int (nI (ks_rs P r_1)), .long (ks_fd P r_1)])), (t0, .inl (cI, 30, .inl fp2_3)), (hg, .inr (1, [.ref g0, .ref g1, .ref g2, .int (nI sd)])), (g0, .inl (cI, 4, .inl (fun i => nI (W.1 i)))), (g1, .inl (cI, 4, .inl (fun i => nI (W.2.1 i)))), (g2, .inl (cI, 4, .inl (fun i => nI (W.2.2 i)))), (ha, .inr (0, [.ref a0, .ref a1, .ref a2, .ref a3, .int (nI n), .long S])), (a0, .inl (cI, 41, .inl f0)), (a1, .inl (cI, 41, .inl f1)), (a2, .inl (cI, 41, .inl (fun i => nI (mu i)))), (a3, .inl (cL, 41, .inr (.inl F))), (hq, .inr (3, [.ref r0, .ref r1, .ref r2, .int (nI rc)])), (r0, .inl (cI, 6, .inl (fun i => nI (Q.1 i)))), (r1, .inl (cI, 6, .inl (fun i => nI (Q.2.1 i)))), (r2, .inl (cI, 6, .inl (fun i => nI (Q.2.2 i))))])) (g_runV (q0 := 5) (ci := 5) B hK rfl rfl (k_covers l (D := D) (cI := cI) (cL := cL) (cZ := cZ) (cQ := cQ) hb hp ht hg ha hq p0 p1 p2 p3 p4 P t0 fp2_2 (nI (ks_st P r_1)) (nI (ks_rs P r_1)) (ks_fd P r_1) r_1 (by first | with_reducible assumption | omega | assumption) (by first | with_reducible assumption | omega | assumption)) (gPw.pre (av := [.ref hb, .int (nI r_1)]) (wc := [(hb, .inr (5, [.ref hp, .ref ht, .ref hg, .ref ha, .ref hq])), (hp, .inr (2, [.ref p0, .ref p1, .ref p2, .ref p3, .ref p4])), (p0, .inl (cI, 12, .inl (fun i => nI (P.1 i)))), (p1, .inl (cI, 12, .inl (fun i => nI (P.2.1 i)))), (p2, .inl (cI, 12, .inl (fun i => nI (P.2.2.1 i)))), (p3, .inl (cI, 24, .inl (fun i => ks_tI (P.2.2.2.1 i)))), (p4, .inl (cZ, 12, .inl (fun i => bI (P.2.2.2.2 i)))), (ht, .inr (4, [.ref t0, .int (nI (ks_st P r_1)), .int (nI (ks_rs P r_1)), .long (ks_fd P r_1)])), (t0, .inl (cI, 30, .inl fp2_2))]) hK hN [5, 6, 7, 8, 9, 10, 11, 12, 13] rfl (by decide)) gL_law_X5_covers rfl rfl kd_X5_covers ⟨Nat.le_of_ble_eq_true rfl, Nat.le_of_ble_eq_true rfl⟩ (st := []) rfl (Nat.le_of_ble_eq_true rfl) dL_law_105 ⟨by (try dsimp only); omega, by (try dsimp only); omega⟩) hA (fun _ h => h) [5, 6, 7, 8, 9, 10, 11, 12, 13] [0, 1, 2, 3, 4, 14, 15, 16, 17, 18, 19, 20, 21, 22, 23, 24, 25, 26] (wr := [(gb, .inr (6, [.ref hb, .ref b, .int (nI (dw + 1)), .ref gn, .ref gv, .int (nI sd), .ref gk, .ref gr])), (gn, .inl (cQ, 12, .inr (.inr (.inr (.inr (fun i => some (na i))))))), (gv, .inl (cQ, 4, .inr (.inr (.inr (.inr (fun i => some (wa i))))))), (gk, .inl (cQ, n, .inr (.inr (.inr (.inr (fun i => some (ka i))))))), (gr, .inl (cQ, rc, .inr (.inr (.inr (.inr (fun i => some (ra i))))))), (hg, .inr (1, [.ref g0, .ref g1, .ref g2, .int (nI sd)])), (g0, .inl (cI, 4, .inl (fun i => nI (W.1 i)))), (g1, .inl (cI, 4, .inl (fun i => nI (W.2.1 i)))), (g2, .inl (cI, 4, .inl (fun i => nI (W.2.2 i)))), (ha, .inr (0, [.ref a0, .ref a1, .ref a2, .ref a3, .int (nI n), .long S])), (a0, .inl (cI, 41, .inl f0)), (a1, .inl (cI, 41, .inl f1)), (a2, .inl (cI, 41, .inl (fun i => nI (mu i)))), (a3, .inl (cL, 41, .inr (.inl F))), (hq, .inr (3, [.ref r0, .ref r1, .ref r2, .int (nI rc)])), (r0, .inl (cI, 6, .inl (fun i => nI (Q.1 i)))), (r1, .inl (cI, 6, .inl (fun i => nI (Q.2.1 i)))), (r2, .inl (cI, 6, .inl (fun i => nI (Q.2.2 i))))]) rfl rfl (by decide) (by decide) [0, 1, 2, 3, 4, 18, 19, 20, 21, 22, 23, 24, 25, 26, 5, 6, 7, 8, 9, 10, 11, 12, 13, 14, 15, 16, 17] (by decide) (fun _ => rfl) (fun u hu => ?_)
  obtain ⟨fp2_3, e9⟩ : ∃ z, z = u := ⟨_, rfl⟩; subst e9
  try dsimp only at hu ⊢
  refine g_istore (lv' := [(0, .ref b), (1, .int (nI tm)), (2, .ref gb), (3, .ref hb), (4, .int (nI sp)), (5, .long bf), (7, .int (nI kk)), (8, .int (nI r_1)), (9, .int (nI (ks_rs P r_1))), (10, .int (nI (ks_ed (ks_fd P r_1))))]) B dL_law_108 (by decide) [1, 2, 3, 4, 5, 6, 7, 8, 9, 0] rfl ?_
  refine g_iconst (v := (-1 : Int32)) B dL_law_110 (by decide) ?_
  refine g_istore (lv' := [(0, .ref b), (1, .int (nI tm)), (2, .ref gb), (3, .ref hb), (4, .int (nI sp)), (5, .long bf), (7, .int (nI kk)), (8, .int (nI r_1)), (9, .int (nI (ks_rs P r_1))), (10, .int (nI (ks_ed (ks_fd P r_1)))), (11, .int (-1 : Int32))]) B dL_law_111 (by decide) [1, 2, 3, 4, 5, 6, 7, 8, 9, 10, 0] rfl ?_
  refine g_iconst (v := (0 : Int32)) B dL_law_113 (by decide) ?_
  refine g_istore (lv' := [(0, .ref b), (1, .int (nI tm)), (2, .ref gb), (3, .ref hb), (4, .int (nI sp)), (5, .long bf), (7, .int (nI kk)), (8, .int (nI r_1)), (9, .int (nI (ks_rs P r_1))), (10, .int (nI (ks_ed (ks_fd P r_1)))), (11, .int (-1 : Int32)), (12, .int (0 : Int32))]) B dL_law_114 (by decide) [1, 2, 3, 4, 5, 6, 7, 8, 9, 10, 11, 0] rfl ?_
  refine g_iconst (v := (0 : Int32)) B dL_law_116 (by decide) ?_
  refine g_istore (lv' := [(0, .ref b), (1, .int (nI tm)), (2, .ref gb), (3, .ref hb), (4, .int (nI sp)), (5, .long bf), (7, .int (nI kk)), (8, .int (nI r_1)), (9, .int (nI (ks_rs P r_1))), (10, .int (nI (ks_ed (ks_fd P r_1)))), (11, .int (-1 : Int32)), (12, .int (0 : Int32)), (13, .int (0 : Int32))]) B dL_law_117 (by decide) [1, 2, 3, 4, 5, 6, 7, 8, 9, 10, 11, 12, 0] rfl ?_
  refine g_widen (k := nc + 0 * 0) (n := ns + 0 * 0) (by (try dsimp only); omega) (by (try dsimp only); omega) ?_
  refine g_loop (σ := Nat × (Nat → Int32)) (fun x9 => x9.1 ≤ 30 ∧ ∀ j, j < x9.1 → ks_go P (ks_nd P r_1 j) = true) (fun x9 => 31 - x9.1) (fun x9 => nc + 0 * x9.1) (fun x9 => ns + 0 * x9.1) (fun x9 => ([(gb, .inr (6, [.ref hb, .ref b, .int (nI (dw + 1)), .ref gn, .ref gv, .int (nI sd), .ref gk, .ref gr])), (gn, .inl (cQ, 12, .inr (.inr (.inr (.inr (fun i => some (na i))))))), (gv, .inl (cQ, 4, .inr (.inr (.inr (.inr (fun i => some (wa i))))))), (gk, .inl (cQ, n, .inr (.inr (.inr (.inr (fun i => some (ka i))))))), (gr, .inl (cQ, rc, .inr (.inr (.inr (.inr (fun i => some (ra i))))))), (hb, .inr (5, [.ref hp, .ref ht, .ref hg, .ref ha, .ref hq])), (hp, .inr (2, [.ref p0, .ref p1, .ref p2, .ref p3, .ref p4])), (p0, .inl (cI, 12, .inl (fun i => nI (P.1 i)))), (p1, .inl (cI, 12, .inl (fun i => nI (P.2.1 i)))), (p2, .inl (cI, 12, .inl (fun i => nI (P.2.2.1 i)))), (p3, .inl (cI, 24, .inl (fun i => ks_tI (P.2.2.2.1 i)))), (p4, .inl (cZ, 12, .inl (fun i => bI (P.2.2.2.2 i)))), (ht, .inr (4, [.ref t0, .int (nI (ks_st P r_1)), .int (nI (ks_rs P r_1)), .long (ks_fd P r_1)])), (t0, .inl (cI, 30, .inl x9.2)), (hg, .inr (1, [.ref g0, .ref g1, .ref g2, .int (nI sd)])), (g0, .inl (cI, 4, .inl (fun i => nI (W.1 i)))), (g1, .inl (cI, 4, .inl (fun i => nI (W.2.1 i)))), (g2, .inl (cI, 4, .inl (fun i => nI (W.2.2 i)))), (ha, .inr (0, [.ref a0, .ref a1, .ref a2, .ref a3, .int (nI n), .long S])), (a0, .inl (cI, 41, .inl f0)), (a1, .inl (cI, 41, .inl f1)), (a2, .inl (cI, 41, .inl (fun i => nI (mu i)))), (a3, .inl (cL, 41, .inr (.inl F))), (hq, .inr (3, [.ref r0, .ref r1, .ref r2, .int (nI rc)])), (r0, .inl (cI, 6, .inl (fun i => nI (Q.1 i)))), (r1, .inl (cI, 6, .inl (fun i => nI (Q.2.1 i)))), (r2, .inl (cI, 6, .inl (fun i => nI (Q.2.2 i))))] ++ (tl_T cI 12 na (ks_nr P) 4 wa (ks_wr W) rc ra (ks_rr Q) n ka (ks_kn t S mu)))) (fun x9 => [(0, .ref b), (1, .int (nI tm)), (2, .ref gb), (3, .ref hb), (4, .int (nI sp)), (5, .long bf), (7, .int (nI kk)), (8, .int (nI r_1)), (9, .int (nI (ks_rs P r_1))), (10, .int (nI (ks_ed (ks_fd P r_1)))), (11, .int (ks_rI x9.1 (ks_rk P r_1 x9.1))), (12, .int (ks_tI (ks_nd P r_1 x9.1))), (13, .int (nI x9.1))]) (fun x9 hI ih119 => ?_) (0, fp2_3) (by (try dsimp only); exact ⟨by omega, fun j h => absurd h (Nat.not_lt_zero j)⟩) rfl rfl (by (try dsimp only) <;> rfl) (by (try dsimp only) <;> rfl)
  obtain ⟨k, fpx⟩ := x9
  try dsimp only at hI ih119 ⊢
  obtain ⟨i1, i2⟩ := hI
  refine g_iload B dL_law_119 12 rfl ?_
  refine g_bipush (v := (30 : Int32)) B dL_law_121 (by decide) ?_
  refine g_ncmp_ge (tgt := 190) B k 30 rfl rfl (by omega) (by omega) dL_law_123 (by decide) (fun c4 => ?_) (fun c4 => ?_)
  · have hk30 : k = 30 := by omega
    rcases Nat.lt_or_ge (ks_nd P r_1 k) 12 with hn9 | hn9
    · cases hb9 : P.2.2.2.2 (ks_nd P r_1 k) with
      | false =>
        obtain ⟨z1, z2, -⟩ := fw_C hk30 i2 hn9 hb9
        refine g_eqlv (lv2 := [(0, .ref b), (1, .int (nI tm)), (2, .ref gb), (3, .ref hb), (4, .int (nI sp)), (5, .long bf), (7, .int (nI kk)), (8, .int (nI r_1)), (9, .int (nI (ks_rs P r_1))), (10, .int (nI (ks_ed (ks_fd P r_1)))), (11, .int (ks_rI k (ks_rk P r_1 k))), (12, .int (nI (ks_nd P r_1 k))), (13, .int (nI k))]) (by rw [ks_tI_lt hn9]) ?_
        obtain ⟨w1, w2⟩ := ks_ed_st P r_1
        have w3 := ks_rs_lt (t := r_1) hW
        refine g_iload B dL_law_190 8 rfl ?_
        refine g_bipush (v := (100 : Int32)) B dL_law_192 (by decide) ?_
        refine g_ncmp_ge (tgt := 209) B (ks_rs P r_1) 100 rfl rfl (by omega) (by omega) dL_law_194 (by decide) (fun c5 => ?_) (fun c5 => ?_)
        rotate_left; · exfalso; omega
        refine g_iload B dL_law_209 8 rfl ?_
        refine g_bipush (v := (112 : Int32)) B dL_law_211 (by decide) ?_
        refine g_ncmp_gt (tgt := 296) B (ks_rs P r_1) 112 rfl rfl (by omega) (by omega) dL_law_213 (by decide) (fun c6 => ?_) (fun c6 => ?_)
        · exfalso; omega
        refine g_iload B dL_law_216 8 rfl ?_
        refine g_bipush (v := (112 : Int32)) B dL_law_218 (by decide) ?_
        refine g_ncmp_ne (tgt := 230) B (ks_rs P r_1) 112 rfl rfl (by omega) (by omega) dL_law_220 (by decide) (fun c7 => ?_) (fun c7 => ?_)
        · exfalso; omega
        refine g_iload B dL_law_223 12 rfl ?_
        refine g_bipush (v := (30 : Int32)) B dL_law_225 (by decide) ?_
        refine g_ncmp_lt (tgt := 296) B k 30 rfl rfl (by omega) (by omega) dL_law_227 (by decide) (fun c8 => ?_) (fun c8 => ?_)
        · exfalso; omega
        refine g_iload B dL_law_230 8 rfl ?_
        refine g_bipush (v := (100 : Int32)) B dL_law_232 (by decide) ?_
        refine g_ncmp_lt (tgt := 266) B (ks_rs P r_1) 100 rfl rfl (by omega) (by omega) dL_law_234 (by decide) (fun c9 => ?_) (fun c9 => ?_)
        · exfalso; omega
        refine g_iload B dL_law_237 8 rfl ?_
        refine g_bipush (v := (112 : Int32)) B dL_law_239 (by decide) ?_
        refine g_ncmp_ge (tgt := 266) B (ks_rs P r_1) 112 rfl rfl (by omega) (by omega) dL_law_241 (by decide) (fun c10 => ?_) (fun c10 => ?_)
        rotate_left; · exfalso; omega
        refine g_iload B dL_law_266 9 rfl ?_
        refine g_iload B dL_law_268 12 rfl ?_
        refine g_ncmp_gt (tgt := 296) B (ks_ed (ks_fd P r_1)) k rfl rfl (by omega) (by omega) dL_law_270 (by decide) (fun c11 => ?_) (fun c11 => ?_)
        · exfalso; omega
        refine g_iload B dL_law_273 12 rfl ?_
        refine g_nif_le (tgt := 282) B k rfl (by omega) dL_law_275 (by decide) (fun c12 => ?_) (fun c12 => ?_)
        · refine g_iconst (v := (0 : Int32)) B dL_law_282 (by decide) ?_
          refine g_iload B dL_law_283 9 rfl ?_
          refine g_nif_le (tgt := 292) B (ks_ed (ks_fd P r_1)) rfl (by omega) dL_law_285 (by decide) (fun c13 => ?_) (fun c13 => ?_)
          rotate_left; · exfalso; omega
          refine g_iconst (v := (0 : Int32)) B dL_law_292 (by decide) ?_
          refine g_icmp_eq (tgt := 298) B dL_law_293 (by decide) (fun _ => ?_) (fun c14 => absurd (by decide) c14)
          refine g_pick [0, 1, 2, 3, 4, 5, 6, 7, 8] (lv2 := [(0, .ref b), (1, .int (nI tm)), (2, .ref gb), (3, .ref hb), (4, .int (nI sp)), (5, .long bf), (7, .int (nI kk)), (8, .int (nI r_1)), (9, .int (nI (ks_rs P r_1)))]) rfl ?_
          refine g_widen (k := nc + 0) (n := ns + 0) (by (try dsimp only); omega) (by (try dsimp only); omega) ?_
          exact hT (dw + 1) r_1 fpx (nI (ks_st P r_1)) (nI (ks_rs P r_1)) (ks_fd P r_1) (by omega) (by omega)
        · refine g_iconst (v := (1 : Int32)) B dL_law_278 (by decide) ?_
          refine g_goto (tgt := 283) B dL_law_279 (by decide) ?_
          refine g_iload B dL_law_283 9 rfl ?_
          refine g_nif_le (tgt := 292) B (ks_ed (ks_fd P r_1)) rfl (by omega) dL_law_285 (by decide) (fun c15 => ?_) (fun c15 => ?_)
          · exfalso; omega
          refine g_iconst (v := (1 : Int32)) B dL_law_288 (by decide) ?_
          refine g_goto (tgt := 293) B dL_law_289 (by decide) ?_
          refine g_icmp_eq (tgt := 298) B dL_law_293 (by decide) (fun _ => ?_) (fun c16 => absurd (by decide) c16)
          refine g_pick [0, 1, 2, 3, 4, 5, 6, 7, 8] (lv2 := [(0, .ref b), (1, .int (nI tm)), (2, .ref gb), (3, .ref hb), (4, .int (nI sp)), (5, .long bf), (7, .int (nI kk)), (8, .int (nI r_1)), (9, .int (nI (ks_rs P r_1)))]) rfl ?_
          refine g_widen (k := nc + 0) (n := ns + 0) (by (try dsimp only); omega) (by (try dsimp only); omega) ?_
          exact hT (dw + 1) r_1 fpx (nI (ks_st P r_1)) (nI (ks_rs P r_1)) (ks_fd P r_1) (by omega) (by omega)
      | true =>
        obtain ⟨z1, z2, -⟩ := fw_B i1 i2 hn9 hb9
        refine g_eqlv (lv2 := [(0, .ref b), (1, .int (nI tm)), (2, .ref gb), (3, .ref hb), (4, .int (nI sp)), (5, .long bf), (7, .int (nI kk)), (8, .int (nI r_1)), (9, .int (nI (ks_rs P r_1))), (10, .int (nI (ks_ed (ks_fd P r_1)))), (11, .int (ks_rI k (ks_rk P r_1 k))), (12, .int (nI (ks_nd P r_1 k))), (13, .int (nI k))]) (by rw [ks_tI_lt hn9]) ?_
        obtain ⟨w1, w2⟩ := ks_ed_st P r_1
        have w3 := ks_rs_lt (t := r_1) hW
        refine g_iload B dL_law_190 8 rfl ?_
        refine g_bipush (v := (100 : Int32)) B dL_law_192 (by decide) ?_
        refine g_ncmp_ge (tgt := 209) B (ks_rs P r_1) 100 rfl rfl (by omega) (by omega) dL_law_194 (by decide) (fun c17 => ?_) (fun c17 => ?_)
        rotate_left; · exfalso; omega
        refine g_iload B dL_law_209 8 rfl ?_
        refine g_bipush (v := (112 : Int32)) B dL_law_211 (by decide) ?_
        refine g_ncmp_gt (tgt := 296) B (ks_rs P r_1) 112 rfl rfl (by omega) (by omega) dL_law_213 (by decide) (fun c18 => ?_) (fun c18 => ?_)
        · exfalso; omega
        refine g_iload B dL_law_216 8 rfl ?_
        refine g_bipush (v := (112 : Int32)) B dL_law_218 (by decide) ?_
        refine g_ncmp_ne (tgt := 230) B (ks_rs P r_1) 112 rfl rfl (by omega) (by omega) dL_law_220 (by decide) (fun c19 => ?_) (fun c19 => ?_)
        rotate_left; · exfalso; omega
        refine g_iload B dL_law_230 8 rfl ?_
        refine g_bipush (v := (100 : Int32)) B dL_law_232 (by decide) ?_
        refine g_ncmp_lt (tgt := 266) B (ks_rs P r_1) 100 rfl rfl (by omega) (by omega) dL_law_234 (by decide) (fun c20 => ?_) (fun c20 => ?_)
        · exfalso; omega
        refine g_iload B dL_law_237 8 rfl ?_
        refine g_bipush (v := (112 : Int32)) B dL_law_239 (by decide) ?_
        refine g_ncmp_ge (tgt := 266) B (ks_rs P r_1) 112 rfl rfl (by omega) (by omega) dL_law_241 (by decide) (fun c21 => ?_) (fun c21 => ?_)
        · exfalso; omega
        refine g_iload B dL_law_244 11 rfl ?_
        refine g_iload B dL_law_246 8 rfl ?_
        refine g_bipush (v := (100 : Int32)) B dL_law_248 (by decide) ?_
        refine g_isub (v := nI ((ks_rs P r_1) - 100)) B dL_law_250 (pk_sub (a := ks_rs P r_1) (b := 100) (by omega)) ?_
        refine g_ncmp_ne (tgt := 296) B (ks_nd P r_1 k) ((ks_rs P r_1) - 100) rfl rfl (by omega) (by omega) dL_law_251 (by decide) (fun c22 => ?_) (fun c22 => ?_)
        · exfalso; omega
        refine g_aload_n B dL_law_254 2 rfl ?_
        refine g_get (C := RX6) (T := TX6) (N := 8) (ci := 6) B hK inlX6 0 rfl rfl 3 (by decide) (List.mem_of_getElem? (i := 4) rfl) rfl (v := .ref gn) rfl dL_law_255 ?_
        refine g_iload B dL_law_258 11 rfl ?_
        refine g_qald B hK 1 3 rfl rfl (ks_nd P r_1 k) rfl (by omega) (by omega) (r := (na (ks_nd P r_1 k))) rfl dL_law_260 ?_
        refine g_iconst (v := (5 : Int32)) B dL_law_261 (by decide) ?_
        refine g_iald B hK _ 0 (tl_g1 (i := (ks_nd P r_1 k)) (by omega)) rfl 5 rfl (by omega) (by omega) (v := bI (P.2.2.2.2 (ks_nd P r_1 k))) (rfl) dL_law_262 ?_
        refine g_bif_eq (tgt := 296) B dL_law_263 (by decide) (fun c23 => ?_) (fun c23 => ?_)
        · exfalso; exact absurd (hb9.symm.trans c23) (by decide)
        refine g_iload B dL_law_266 9 rfl ?_
        refine g_iload B dL_law_268 12 rfl ?_
        refine g_ncmp_gt (tgt := 296) B (ks_ed (ks_fd P r_1)) k rfl rfl (by omega) (by omega) dL_law_270 (by decide) (fun c24 => ?_) (fun c24 => ?_)
        · exfalso; omega
        refine g_iload B dL_law_273 12 rfl ?_
        refine g_nif_le (tgt := 282) B k rfl (by omega) dL_law_275 (by decide) (fun c25 => ?_) (fun c25 => ?_)
        · refine g_iconst (v := (0 : Int32)) B dL_law_282 (by decide) ?_
          refine g_iload B dL_law_283 9 rfl ?_
          refine g_nif_le (tgt := 292) B (ks_ed (ks_fd P r_1)) rfl (by omega) dL_law_285 (by decide) (fun c26 => ?_) (fun c26 => ?_)
          rotate_left; · exfalso; omega
          refine g_iconst (v := (0 : Int32)) B dL_law_292 (by decide) ?_
          refine g_icmp_eq (tgt := 298) B dL_law_293 (by decide) (fun _ => ?_) (fun c27 => absurd (by decide) c27)
          refine g_pick [0, 1, 2, 3, 4, 5, 6, 7, 8] (lv2 := [(0, .ref b), (1, .int (nI tm)), (2, .ref gb), (3, .ref hb), (4, .int (nI sp)), (5, .long bf), (7, .int (nI kk)), (8, .int (nI r_1)), (9, .int (nI (ks_rs P r_1)))]) rfl ?_
          refine g_widen (k := nc + 0) (n := ns + 0) (by (try dsimp only); omega) (by (try dsimp only); omega) ?_
          exact hT (dw + 1) r_1 fpx (nI (ks_st P r_1)) (nI (ks_rs P r_1)) (ks_fd P r_1) (by omega) (by omega)
        · refine g_iconst (v := (1 : Int32)) B dL_law_278 (by decide) ?_
          refine g_goto (tgt := 283) B dL_law_279 (by decide) ?_
          refine g_iload B dL_law_283 9 rfl ?_
          refine g_nif_le (tgt := 292) B (ks_ed (ks_fd P r_1)) rfl (by omega) dL_law_285 (by decide) (fun c28 => ?_) (fun c28 => ?_)
          · exfalso; omega
          refine g_iconst (v := (1 : Int32)) B dL_law_288 (by decide) ?_
          refine g_goto (tgt := 293) B dL_law_289 (by decide) ?_
          refine g_icmp_eq (tgt := 298) B dL_law_293 (by decide) (fun _ => ?_) (fun c29 => absurd (by decide) c29)
          refine g_pick [0, 1, 2, 3, 4, 5, 6, 7, 8] (lv2 := [(0, .ref b), (1, .int (nI tm)), (2, .ref gb), (3, .ref hb), (4, .int (nI sp)), (5, .long bf), (7, .int (nI kk)), (8, .int (nI r_1)), (9, .int (nI (ks_rs P r_1)))]) rfl ?_
          refine g_widen (k := nc + 0) (n := ns + 0) (by (try dsimp only); omega) (by (try dsimp only); omega) ?_
          exact hT (dw + 1) r_1 fpx (nI (ks_st P r_1)) (nI (ks_rs P r_1)) (ks_fd P r_1) (by omega) (by omega)
    · obtain ⟨z1, z2, -⟩ := fw_A i1 i2 (Nat.not_lt.mpr hn9)
      have z4 := rs_A i1 i2 (Nat.not_lt.mpr hn9)
      refine g_eqlv (lv2 := [(0, .ref b), (1, .int (nI tm)), (2, .ref gb), (3, .ref hb), (4, .int (nI sp)), (5, .long bf), (7, .int (nI kk)), (8, .int (nI r_1)), (9, .int (nI (ks_rs P r_1))), (10, .int (nI (ks_ed (ks_fd P r_1)))), (11, .int (nI (ks_rs P r_1))), (12, .int (ks_tI (ks_nd P r_1 k))), (13, .int (nI k))]) (by rw [z2]) ?_
      refine g_eqlv (lv2 := [(0, .ref b), (1, .int (nI tm)), (2, .ref gb), (3, .ref hb), (4, .int (nI sp)), (5, .long bf), (7, .int (nI kk)), (8, .int (nI r_1)), (9, .int (nI (ks_rs P r_1))), (10, .int (nI (ks_ed (ks_fd P r_1)))), (11, .int (nI (ks_rs P r_1))), (12, .int (-1 : Int32)), (13, .int (nI k))]) (by rw [ks_tI_ge (Nat.not_lt.mpr hn9)]) ?_
      obtain ⟨w1, w2⟩ := ks_ed_st P r_1
      have w3 := ks_rs_lt (t := r_1) hW
      refine g_iload B dL_law_190 8 rfl ?_
      refine g_bipush (v := (100 : Int32)) B dL_law_192 (by decide) ?_
      refine g_ncmp_ge (tgt := 209) B (ks_rs P r_1) 100 rfl rfl (by omega) (by omega) dL_law_194 (by decide) (fun c30 => ?_) (fun c30 => ?_)
      · exfalso; omega
      refine g_iload B dL_law_197 8 rfl ?_
      refine g_iload B dL_law_199 10 rfl ?_
      refine g_ncmp_ne (tgt := 296) B (ks_rs P r_1) (ks_rs P r_1) rfl rfl (by omega) (by omega) dL_law_201 (by decide) (fun c31 => ?_) (fun c31 => ?_)
      · exfalso; omega
      refine g_iload B dL_law_204 11 rfl ?_
      refine g_if_ge (tgt := 296) B dL_law_206 (by decide) (fun c32 => absurd c32 (by decide)) (fun _ => ?_)
      refine g_iload B dL_law_209 8 rfl ?_
      refine g_bipush (v := (112 : Int32)) B dL_law_211 (by decide) ?_
      refine g_ncmp_gt (tgt := 296) B (ks_rs P r_1) 112 rfl rfl (by omega) (by omega) dL_law_213 (by decide) (fun c33 => ?_) (fun c33 => ?_)
      · exfalso; omega
      refine g_iload B dL_law_216 8 rfl ?_
      refine g_bipush (v := (112 : Int32)) B dL_law_218 (by decide) ?_
      refine g_ncmp_ne (tgt := 230) B (ks_rs P r_1) 112 rfl rfl (by omega) (by omega) dL_law_220 (by decide) (fun c34 => ?_) (fun c34 => ?_)
      rotate_left; · exfalso; omega
      refine g_iload B dL_law_230 8 rfl ?_
      refine g_bipush (v := (100 : Int32)) B dL_law_232 (by decide) ?_
      refine g_ncmp_lt (tgt := 266) B (ks_rs P r_1) 100 rfl rfl (by omega) (by omega) dL_law_234 (by decide) (fun c35 => ?_) (fun c35 => ?_)
      rotate_left; · exfalso; omega
      refine g_iload B dL_law_266 9 rfl ?_
      refine g_iload B dL_law_268 12 rfl ?_
      refine g_ncmp_gt (tgt := 296) B (ks_ed (ks_fd P r_1)) k rfl rfl (by omega) (by omega) dL_law_270 (by decide) (fun c36 => ?_) (fun c36 => ?_)
      · exfalso; omega
      refine g_iload B dL_law_273 12 rfl ?_
      refine g_nif_le (tgt := 282) B k rfl (by omega) dL_law_275 (by decide) (fun c37 => ?_) (fun c37 => ?_)
      · refine g_iconst (v := (0 : Int32)) B dL_law_282 (by decide) ?_
        refine g_iload B dL_law_283 9 rfl ?_
        refine g_nif_le (tgt := 292) B (ks_ed (ks_fd P r_1)) rfl (by omega) dL_law_285 (by decide) (fun c38 => ?_) (fun c38 => ?_)
        rotate_left; · exfalso; omega
        refine g_iconst (v := (0 : Int32)) B dL_law_292 (by decide) ?_
        refine g_icmp_eq (tgt := 298) B dL_law_293 (by decide) (fun _ => ?_) (fun c39 => absurd (by decide) c39)
        refine g_pick [0, 1, 2, 3, 4, 5, 6, 7, 8] (lv2 := [(0, .ref b), (1, .int (nI tm)), (2, .ref gb), (3, .ref hb), (4, .int (nI sp)), (5, .long bf), (7, .int (nI kk)), (8, .int (nI r_1)), (9, .int (nI (ks_rs P r_1)))]) rfl ?_
        refine g_widen (k := nc + 0) (n := ns + 0) (by (try dsimp only); omega) (by (try dsimp only); omega) ?_
        exact hT (dw + 1) r_1 fpx (nI (ks_st P r_1)) (nI (ks_rs P r_1)) (ks_fd P r_1) (by omega) (by omega)
      · refine g_iconst (v := (1 : Int32)) B dL_law_278 (by decide) ?_
        refine g_goto (tgt := 283) B dL_law_279 (by decide) ?_
        refine g_iload B dL_law_283 9 rfl ?_
        refine g_nif_le (tgt := 292) B (ks_ed (ks_fd P r_1)) rfl (by omega) dL_law_285 (by decide) (fun c40 => ?_) (fun c40 => ?_)
        · exfalso; omega
        refine g_iconst (v := (1 : Int32)) B dL_law_288 (by decide) ?_
        refine g_goto (tgt := 293) B dL_law_289 (by decide) ?_
        refine g_icmp_eq (tgt := 298) B dL_law_293 (by decide) (fun _ => ?_) (fun c41 => absurd (by decide) c41)
        refine g_pick [0, 1, 2, 3, 4, 5, 6, 7, 8] (lv2 := [(0, .ref b), (1, .int (nI tm)), (2, .ref gb), (3, .ref hb), (4, .int (nI sp)), (5, .long bf), (7, .int (nI kk)), (8, .int (nI r_1)), (9, .int (nI (ks_rs P r_1)))]) rfl ?_
        refine g_widen (k := nc + 0) (n := ns + 0) (by (try dsimp only); omega) (by (try dsimp only); omega) ?_
        exact hT (dw + 1) r_1 fpx (nI (ks_st P r_1)) (nI (ks_rs P r_1)) (ks_fd P r_1) (by omega) (by omega)
  · refine g_iload B dL_law_126 11 rfl ?_
    refine g_tif_lt (tgt := 190) B dL_law_128 (by decide) (fun c42 => ?_) (fun c42 => ?_)
    · obtain ⟨z1, z2, -⟩ := fw_A i1 i2 c42
      have z4 := rs_A i1 i2 c42
      refine g_eqlv (lv2 := [(0, .ref b), (1, .int (nI tm)), (2, .ref gb), (3, .ref hb), (4, .int (nI sp)), (5, .long bf), (7, .int (nI kk)), (8, .int (nI r_1)), (9, .int (nI (ks_rs P r_1))), (10, .int (nI (ks_ed (ks_fd P r_1)))), (11, .int (nI (ks_rs P r_1))), (12, .int (ks_tI (ks_nd P r_1 k))), (13, .int (nI k))]) (by rw [z2]) ?_
      refine g_eqlv (lv2 := [(0, .ref b), (1, .int (nI tm)), (2, .ref gb), (3, .ref hb), (4, .int (nI sp)), (5, .long bf), (7, .int (nI kk)), (8, .int (nI r_1)), (9, .int (nI (ks_rs P r_1))), (10, .int (nI (ks_ed (ks_fd P r_1)))), (11, .int (nI (ks_rs P r_1))), (12, .int (-1 : Int32)), (13, .int (nI k))]) (by rw [ks_tI_ge c42]) ?_
      obtain ⟨w1, w2⟩ := ks_ed_st P r_1
      have w3 := ks_rs_lt (t := r_1) hW
      refine g_iload B dL_law_190 8 rfl ?_
      refine g_bipush (v := (100 : Int32)) B dL_law_192 (by decide) ?_
      refine g_ncmp_ge (tgt := 209) B (ks_rs P r_1) 100 rfl rfl (by omega) (by omega) dL_law_194 (by decide) (fun c43 => ?_) (fun c43 => ?_)
      · exfalso; omega
      refine g_iload B dL_law_197 8 rfl ?_
      refine g_iload B dL_law_199 10 rfl ?_
      refine g_ncmp_ne (tgt := 296) B (ks_rs P r_1) (ks_rs P r_1) rfl rfl (by omega) (by omega) dL_law_201 (by decide) (fun c44 => ?_) (fun c44 => ?_)
      · exfalso; omega
      refine g_iload B dL_law_204 11 rfl ?_
      refine g_if_ge (tgt := 296) B dL_law_206 (by decide) (fun c45 => absurd c45 (by decide)) (fun _ => ?_)
      refine g_iload B dL_law_209 8 rfl ?_
      refine g_bipush (v := (112 : Int32)) B dL_law_211 (by decide) ?_
      refine g_ncmp_gt (tgt := 296) B (ks_rs P r_1) 112 rfl rfl (by omega) (by omega) dL_law_213 (by decide) (fun c46 => ?_) (fun c46 => ?_)
      · exfalso; omega
      refine g_iload B dL_law_216 8 rfl ?_
      refine g_bipush (v := (112 : Int32)) B dL_law_218 (by decide) ?_
      refine g_ncmp_ne (tgt := 230) B (ks_rs P r_1) 112 rfl rfl (by omega) (by omega) dL_law_220 (by decide) (fun c47 => ?_) (fun c47 => ?_)
      rotate_left; · exfalso; omega
      refine g_iload B dL_law_230 8 rfl ?_
      refine g_bipush (v := (100 : Int32)) B dL_law_232 (by decide) ?_
      refine g_ncmp_lt (tgt := 266) B (ks_rs P r_1) 100 rfl rfl (by omega) (by omega) dL_law_234 (by decide) (fun c48 => ?_) (fun c48 => ?_)
      rotate_left; · exfalso; omega
      refine g_iload B dL_law_266 9 rfl ?_
      refine g_iload B dL_law_268 12 rfl ?_
      refine g_ncmp_gt (tgt := 296) B (ks_ed (ks_fd P r_1)) k rfl rfl (by omega) (by omega) dL_law_270 (by decide) (fun c49 => ?_) (fun c49 => ?_)
      · exfalso; omega
      refine g_iload B dL_law_273 12 rfl ?_
      refine g_nif_le (tgt := 282) B k rfl (by omega) dL_law_275 (by decide) (fun c50 => ?_) (fun c50 => ?_)
      · refine g_iconst (v := (0 : Int32)) B dL_law_282 (by decide) ?_
        refine g_iload B dL_law_283 9 rfl ?_
        refine g_nif_le (tgt := 292) B (ks_ed (ks_fd P r_1)) rfl (by omega) dL_law_285 (by decide) (fun c51 => ?_) (fun c51 => ?_)
        rotate_left; · exfalso; omega
        refine g_iconst (v := (0 : Int32)) B dL_law_292 (by decide) ?_
        refine g_icmp_eq (tgt := 298) B dL_law_293 (by decide) (fun _ => ?_) (fun c52 => absurd (by decide) c52)
        refine g_pick [0, 1, 2, 3, 4, 5, 6, 7, 8] (lv2 := [(0, .ref b), (1, .int (nI tm)), (2, .ref gb), (3, .ref hb), (4, .int (nI sp)), (5, .long bf), (7, .int (nI kk)), (8, .int (nI r_1)), (9, .int (nI (ks_rs P r_1)))]) rfl ?_
        refine g_widen (k := nc + 0) (n := ns + 0) (by (try dsimp only); omega) (by (try dsimp only); omega) ?_
        exact hT (dw + 1) r_1 fpx (nI (ks_st P r_1)) (nI (ks_rs P r_1)) (ks_fd P r_1) (by omega) (by omega)
      · refine g_iconst (v := (1 : Int32)) B dL_law_278 (by decide) ?_
        refine g_goto (tgt := 283) B dL_law_279 (by decide) ?_
        refine g_iload B dL_law_283 9 rfl ?_
        refine g_nif_le (tgt := 292) B (ks_ed (ks_fd P r_1)) rfl (by omega) dL_law_285 (by decide) (fun c53 => ?_) (fun c53 => ?_)
        · exfalso; omega
        refine g_iconst (v := (1 : Int32)) B dL_law_288 (by decide) ?_
        refine g_goto (tgt := 293) B dL_law_289 (by decide) ?_
        refine g_icmp_eq (tgt := 298) B dL_law_293 (by decide) (fun _ => ?_) (fun c54 => absurd (by decide) c54)
        refine g_pick [0, 1, 2, 3, 4, 5, 6, 7, 8] (lv2 := [(0, .ref b), (1, .int (nI tm)), (2, .ref gb), (3, .ref hb), (4, .int (nI sp)), (5, .long bf), (7, .int (nI kk)), (8, .int (nI r_1)), (9, .int (nI (ks_rs P r_1)))]) rfl ?_
        refine g_widen (k := nc + 0) (n := ns + 0) (by (try dsimp only); omega) (by (try dsimp only); omega) ?_
        exact hT (dw + 1) r_1 fpx (nI (ks_st P r_1)) (nI (ks_rs P r_1)) (ks_fd P r_1) (by omega) (by omega)
    · refine g_eqlv (lv2 := [(0, .ref b), (1, .int (nI tm)), (2, .ref gb), (3, .ref hb), (4, .int (nI sp)), (5, .long bf), (7, .int (nI kk)), (8, .int (nI r_1)), (9, .int (nI (ks_rs P r_1))), (10, .int (nI (ks_ed (ks_fd P r_1)))), (11, .int (ks_rI k (ks_rk P r_1 k))), (12, .int (nI (ks_nd P r_1 k))), (13, .int (nI k))]) (by rw [ks_tI_lt c42]) ?_
      refine g_aload_n B dL_law_131 2 rfl ?_
      refine g_get (C := RX6) (T := TX6) (N := 8) (ci := 6) B hK inlX6 0 rfl rfl 3 (by decide) (List.mem_of_getElem? (i := 4) rfl) rfl (v := .ref gn) rfl dL_law_132 ?_
      refine g_iload B dL_law_135 11 rfl ?_
      refine g_qald B hK 1 3 rfl rfl (ks_nd P r_1 k) rfl (by omega) (by omega) (r := (na (ks_nd P r_1 k))) rfl dL_law_137 ?_
      refine g_iconst (v := (5 : Int32)) B dL_law_138 (by decide) ?_
      refine g_iald B hK _ 0 (tl_g1 (i := (ks_nd P r_1 k)) (by omega)) rfl 5 rfl (by omega) (by omega) (v := bI (P.2.2.2.2 (ks_nd P r_1 k))) (rfl) dL_law_139 ?_
      refine g_bif_ne (tgt := 190) B dL_law_140 (by decide) (fun c55 => ?_) (fun c55 => ?_)
      · obtain ⟨z1, z2, -⟩ := fw_B i1 i2 c42 c55
        obtain ⟨w1, w2⟩ := ks_ed_st P r_1
        have w3 := ks_rs_lt (t := r_1) hW
        refine g_iload B dL_law_190 8 rfl ?_
        refine g_bipush (v := (100 : Int32)) B dL_law_192 (by decide) ?_
        refine g_ncmp_ge (tgt := 209) B (ks_rs P r_1) 100 rfl rfl (by omega) (by omega) dL_law_194 (by decide) (fun c56 => ?_) (fun c56 => ?_)
        rotate_left; · exfalso; omega
        refine g_iload B dL_law_209 8 rfl ?_
        refine g_bipush (v := (112 : Int32)) B dL_law_211 (by decide) ?_
        refine g_ncmp_gt (tgt := 296) B (ks_rs P r_1) 112 rfl rfl (by omega) (by omega) dL_law_213 (by decide) (fun c57 => ?_) (fun c57 => ?_)
        · exfalso; omega
        refine g_iload B dL_law_216 8 rfl ?_
        refine g_bipush (v := (112 : Int32)) B dL_law_218 (by decide) ?_
        refine g_ncmp_ne (tgt := 230) B (ks_rs P r_1) 112 rfl rfl (by omega) (by omega) dL_law_220 (by decide) (fun c58 => ?_) (fun c58 => ?_)
        rotate_left; · exfalso; omega
        refine g_iload B dL_law_230 8 rfl ?_
        refine g_bipush (v := (100 : Int32)) B dL_law_232 (by decide) ?_
        refine g_ncmp_lt (tgt := 266) B (ks_rs P r_1) 100 rfl rfl (by omega) (by omega) dL_law_234 (by decide) (fun c59 => ?_) (fun c59 => ?_)
        · exfalso; omega
        refine g_iload B dL_law_237 8 rfl ?_
        refine g_bipush (v := (112 : Int32)) B dL_law_239 (by decide) ?_
        refine g_ncmp_ge (tgt := 266) B (ks_rs P r_1) 112 rfl rfl (by omega) (by omega) dL_law_241 (by decide) (fun c60 => ?_) (fun c60 => ?_)
        · exfalso; omega
        refine g_iload B dL_law_244 11 rfl ?_
        refine g_iload B dL_law_246 8 rfl ?_
        refine g_bipush (v := (100 : Int32)) B dL_law_248 (by decide) ?_
        refine g_isub (v := nI ((ks_rs P r_1) - 100)) B dL_law_250 (pk_sub (a := ks_rs P r_1) (b := 100) (by omega)) ?_
        refine g_ncmp_ne (tgt := 296) B (ks_nd P r_1 k) ((ks_rs P r_1) - 100) rfl rfl (by omega) (by omega) dL_law_251 (by decide) (fun c61 => ?_) (fun c61 => ?_)
        · exfalso; omega
        refine g_aload_n B dL_law_254 2 rfl ?_
        refine g_get (C := RX6) (T := TX6) (N := 8) (ci := 6) B hK inlX6 0 rfl rfl 3 (by decide) (List.mem_of_getElem? (i := 4) rfl) rfl (v := .ref gn) rfl dL_law_255 ?_
        refine g_iload B dL_law_258 11 rfl ?_
        refine g_qald B hK 1 3 rfl rfl (ks_nd P r_1 k) rfl (by omega) (by omega) (r := (na (ks_nd P r_1 k))) rfl dL_law_260 ?_
        refine g_iconst (v := (5 : Int32)) B dL_law_261 (by decide) ?_
        refine g_iald B hK _ 0 (tl_g1 (i := (ks_nd P r_1 k)) (by omega)) rfl 5 rfl (by omega) (by omega) (v := bI (P.2.2.2.2 (ks_nd P r_1 k))) (rfl) dL_law_262 ?_
        refine g_bif_eq (tgt := 296) B dL_law_263 (by decide) (fun c62 => ?_) (fun c62 => ?_)
        · exfalso; exact absurd (c55.symm.trans c62) (by decide)
        refine g_iload B dL_law_266 9 rfl ?_
        refine g_iload B dL_law_268 12 rfl ?_
        refine g_ncmp_gt (tgt := 296) B (ks_ed (ks_fd P r_1)) k rfl rfl (by omega) (by omega) dL_law_270 (by decide) (fun c63 => ?_) (fun c63 => ?_)
        · exfalso; omega
        refine g_iload B dL_law_273 12 rfl ?_
        refine g_nif_le (tgt := 282) B k rfl (by omega) dL_law_275 (by decide) (fun c64 => ?_) (fun c64 => ?_)
        · refine g_iconst (v := (0 : Int32)) B dL_law_282 (by decide) ?_
          refine g_iload B dL_law_283 9 rfl ?_
          refine g_nif_le (tgt := 292) B (ks_ed (ks_fd P r_1)) rfl (by omega) dL_law_285 (by decide) (fun c65 => ?_) (fun c65 => ?_)
          rotate_left; · exfalso; omega
          refine g_iconst (v := (0 : Int32)) B dL_law_292 (by decide) ?_
          refine g_icmp_eq (tgt := 298) B dL_law_293 (by decide) (fun _ => ?_) (fun c66 => absurd (by decide) c66)
          refine g_pick [0, 1, 2, 3, 4, 5, 6, 7, 8] (lv2 := [(0, .ref b), (1, .int (nI tm)), (2, .ref gb), (3, .ref hb), (4, .int (nI sp)), (5, .long bf), (7, .int (nI kk)), (8, .int (nI r_1)), (9, .int (nI (ks_rs P r_1)))]) rfl ?_
          refine g_widen (k := nc + 0) (n := ns + 0) (by (try dsimp only); omega) (by (try dsimp only); omega) ?_
          exact hT (dw + 1) r_1 fpx (nI (ks_st P r_1)) (nI (ks_rs P r_1)) (ks_fd P r_1) (by omega) (by omega)
        · refine g_iconst (v := (1 : Int32)) B dL_law_278 (by decide) ?_
          refine g_goto (tgt := 283) B dL_law_279 (by decide) ?_
          refine g_iload B dL_law_283 9 rfl ?_
          refine g_nif_le (tgt := 292) B (ks_ed (ks_fd P r_1)) rfl (by omega) dL_law_285 (by decide) (fun c67 => ?_) (fun c67 => ?_)
          · exfalso; omega
          refine g_iconst (v := (1 : Int32)) B dL_law_288 (by decide) ?_
          refine g_goto (tgt := 293) B dL_law_289 (by decide) ?_
          refine g_icmp_eq (tgt := 298) B dL_law_293 (by decide) (fun _ => ?_) (fun c68 => absurd (by decide) c68)
          refine g_pick [0, 1, 2, 3, 4, 5, 6, 7, 8] (lv2 := [(0, .ref b), (1, .int (nI tm)), (2, .ref gb), (3, .ref hb), (4, .int (nI sp)), (5, .long bf), (7, .int (nI kk)), (8, .int (nI r_1)), (9, .int (nI (ks_rs P r_1)))]) rfl ?_
          refine g_widen (k := nc + 0) (n := ns + 0) (by (try dsimp only); omega) (by (try dsimp only); omega) ?_
          exact hT (dw + 1) r_1 fpx (nI (ks_st P r_1)) (nI (ks_rs P r_1)) (ks_fd P r_1) (by omega) (by omega)
      · have hgo : ks_go P (ks_nd P r_1 k) = true := ks_go_of c42 c55
        have hst := st_gt (by omega) i2 hgo
        obtain ⟨hek, hek2⟩ : ks_ek P r_1 k < 24 ∧ ks_ek P r_1 k / 2 = ks_nd P r_1 k := ks_eg_lt c42
        refine g_aload_n B dL_law_143 3 rfl ?_
        refine g_iload B dL_law_144 7 rfl ?_
        refine g_iload B dL_law_146 12 rfl ?_
        refine g_callU (w2 := (fun (fp2_69 : Nat → Int32) => [(gb, .inr (6, [.ref hb, .ref b, .int (nI (dw + 1)), .ref gn, .ref gv, .int (nI sd), .ref gk, .ref gr])), (gn, .inl (cQ, 12, .inr (.inr (.inr (.inr (fun i => some (na i))))))), (gv, .inl (cQ, 4, .inr (.inr (.inr (.inr (fun i => some (wa i))))))), (gk, .inl (cQ, n, .inr (.inr (.inr (.inr (fun i => some (ka i))))))), (gr, .inl (cQ, rc, .inr (.inr (.inr (.inr (fun i => some (ra i))))))), (hb, .inr (5, [.ref hp, .ref ht, .ref hg, .ref ha, .ref hq])), (hp, .inr (2, [.ref p0, .ref p1, .ref p2, .ref p3, .ref p4])), (p0, .inl (cI, 12, .inl (fun i => nI (P.1 i)))), (p1, .inl (cI, 12, .inl (fun i => nI (P.2.1 i)))), (p2, .inl (cI, 12, .inl (fun i => nI (P.2.2.1 i)))), (p3, .inl (cI, 24, .inl (fun i => ks_tI (P.2.2.2.1 i)))), (p4, .inl (cZ, 12, .inl (fun i => bI (P.2.2.2.2 i)))), (ht, .inr (4, [.ref t0, .int (nI (ks_st P r_1)), .int (nI (ks_rs P r_1)), .long (ks_fd P r_1)])), (t0, .inl (cI, 30, .inl fp2_69)), (hg, .inr (1, [.ref g0, .ref g1, .ref g2, .int (nI sd)])), (g0, .inl (cI, 4, .inl (fun i => nI (W.1 i)))), (g1, .inl (cI, 4, .inl (fun i => nI (W.2.1 i)))), (g2, .inl (cI, 4, .inl (fun i => nI (W.2.2 i)))), (ha, .inr (0, [.ref a0, .ref a1, .ref a2, .ref a3, .int (nI n), .long S])), (a0, .inl (cI, 41, .inl f0)), (a1, .inl (cI, 41, .inl f1)), (a2, .inl (cI, 41, .inl (fun i => nI (mu i)))), (a3, .inl (cL, 41, .inr (.inl F))), (hq, .inr (3, [.ref r0, .ref r1, .ref r2, .int (nI rc)])), (r0, .inl (cI, 6, .inl (fun i => nI (Q.1 i)))), (r1, .inl (cI, 6, .inl (fun i => nI (Q.2.1 i)))), (r2, .inl (cI, 6, .inl (fun i => nI (Q.2.2 i))))])) (g_runV (q0 := 5) (ci := 5) B hK rfl rfl (k_edge l (D := D) (cI := cI) (cL := cL) (cZ := cZ) (cQ := cQ) hb hp ht hg ha hq p0 p1 p2 p3 p4 P t0 fpx (nI (ks_st P r_1)) (nI (ks_rs P r_1)) (ks_fd P r_1) r_1 k (by first | with_reducible assumption | omega | assumption) (by first | with_reducible assumption | omega | assumption) (by first | with_reducible assumption | omega | assumption)) (gPw.pre (av := [.ref hb, .int (nI r_1), .int (nI k)]) (wc := [(hb, .inr (5, [.ref hp, .ref ht, .ref hg, .ref ha, .ref hq])), (hp, .inr (2, [.ref p0, .ref p1, .ref p2, .ref p3, .ref p4])), (p0, .inl (cI, 12, .inl (fun i => nI (P.1 i)))), (p1, .inl (cI, 12, .inl (fun i => nI (P.2.1 i)))), (p2, .inl (cI, 12, .inl (fun i => nI (P.2.2.1 i)))), (p3, .inl (cI, 24, .inl (fun i => ks_tI (P.2.2.2.1 i)))), (p4, .inl (cZ, 12, .inl (fun i => bI (P.2.2.2.2 i)))), (ht, .inr (4, [.ref t0, .int (nI (ks_st P r_1)), .int (nI (ks_rs P r_1)), .long (ks_fd P r_1)])), (t0, .inl (cI, 30, .inl fpx))]) hK hN [5, 6, 7, 8, 9, 10, 11, 12, 13] rfl (by decide)) gL_law_X5_edge rfl rfl kd_X5_edge ⟨Nat.le_of_ble_eq_true rfl, Nat.le_of_ble_eq_true rfl⟩ (st := []) rfl (Nat.le_of_ble_eq_true rfl) dL_law_148 ⟨by (try dsimp only); omega, by (try dsimp only); omega⟩) hA (fun _ h => h) [5, 6, 7, 8, 9, 10, 11, 12, 13] [0, 1, 2, 3, 4, 14, 15, 16, 17, 18, 19, 20, 21, 22, 23, 24, 25, 26] (wr := [(gb, .inr (6, [.ref hb, .ref b, .int (nI (dw + 1)), .ref gn, .ref gv, .int (nI sd), .ref gk, .ref gr])), (gn, .inl (cQ, 12, .inr (.inr (.inr (.inr (fun i => some (na i))))))), (gv, .inl (cQ, 4, .inr (.inr (.inr (.inr (fun i => some (wa i))))))), (gk, .inl (cQ, n, .inr (.inr (.inr (.inr (fun i => some (ka i))))))), (gr, .inl (cQ, rc, .inr (.inr (.inr (.inr (fun i => some (ra i))))))), (hg, .inr (1, [.ref g0, .ref g1, .ref g2, .int (nI sd)])), (g0, .inl (cI, 4, .inl (fun i => nI (W.1 i)))), (g1, .inl (cI, 4, .inl (fun i => nI (W.2.1 i)))), (g2, .inl (cI, 4, .inl (fun i => nI (W.2.2 i)))), (ha, .inr (0, [.ref a0, .ref a1, .ref a2, .ref a3, .int (nI n), .long S])), (a0, .inl (cI, 41, .inl f0)), (a1, .inl (cI, 41, .inl f1)), (a2, .inl (cI, 41, .inl (fun i => nI (mu i)))), (a3, .inl (cL, 41, .inr (.inl F))), (hq, .inr (3, [.ref r0, .ref r1, .ref r2, .int (nI rc)])), (r0, .inl (cI, 6, .inl (fun i => nI (Q.1 i)))), (r1, .inl (cI, 6, .inl (fun i => nI (Q.2.1 i)))), (r2, .inl (cI, 6, .inl (fun i => nI (Q.2.2 i))))]) rfl rfl (by decide) (by decide) [0, 1, 2, 3, 4, 18, 19, 20, 21, 22, 23, 24, 25, 26, 5, 6, 7, 8, 9, 10, 11, 12, 13, 14, 15, 16, 17] (by decide) (fun _ => rfl) (fun u hu => ?_)
        obtain ⟨fp2_69, e9⟩ : ∃ z, z = u := ⟨_, rfl⟩; subst e9
        try dsimp only at hu ⊢
        refine g_istore (lv' := [(0, .ref b), (1, .int (nI tm)), (2, .ref gb), (3, .ref hb), (4, .int (nI sp)), (5, .long bf), (7, .int (nI kk)), (8, .int (nI r_1)), (9, .int (nI (ks_rs P r_1))), (10, .int (nI (ks_ed (ks_fd P r_1)))), (11, .int (ks_rI k (ks_rk P r_1 k))), (12, .int (nI (ks_nd P r_1 k))), (13, .int (nI k)), (14, .int (nI (ks_ek P r_1 k)))]) B dL_law_151 (by decide) [1, 2, 3, 4, 5, 6, 7, 8, 9, 10, 11, 12, 13, 0] rfl ?_
        refine g_iload B dL_law_153 13 rfl ?_
        refine g_iconst (v := (2 : Int32)) B dL_law_155 (by decide) ?_
        refine g_idiv (v := nI ((ks_ek P r_1 k) / 2)) B dL_law_156 (by decide) (pk_div (a := ks_ek P r_1 k) (d := 2) (by omega) (by decide) (by decide)) ?_
        refine g_iload B dL_law_157 11 rfl ?_
        refine g_ncmp_eq (tgt := 164) B ((ks_ek P r_1 k) / 2) (ks_nd P r_1 k) rfl rfl (by omega) (by omega) dL_law_159 (by decide) (fun c70 => ?_) (fun c70 => ?_)
        rotate_left; · exfalso; omega
        refine g_iload B dL_law_164 13 rfl ?_
        refine g_istore (lv' := [(0, .ref b), (1, .int (nI tm)), (2, .ref gb), (3, .ref hb), (4, .int (nI sp)), (5, .long bf), (7, .int (nI kk)), (8, .int (nI r_1)), (9, .int (nI (ks_rs P r_1))), (10, .int (nI (ks_ed (ks_fd P r_1)))), (11, .int (nI (ks_ek P r_1 k))), (12, .int (nI (ks_nd P r_1 k))), (13, .int (nI k)), (14, .int (nI (ks_ek P r_1 k)))]) B dL_law_166 (by decide) [1, 2, 3, 4, 5, 6, 7, 8, 9, 10, 0, 11, 12, 13] rfl ?_
        refine g_aload_n B dL_law_168 2 rfl ?_
        refine g_get (C := RX6) (T := TX6) (N := 8) (ci := 6) B hK inlX6 0 rfl rfl 3 (by decide) (List.mem_of_getElem? (i := 4) rfl) rfl (v := .ref gn) rfl dL_law_169 ?_
        refine g_iload B dL_law_172 11 rfl ?_
        refine g_qald B hK 1 3 rfl rfl (ks_nd P r_1 k) rfl (by omega) (by omega) (r := (na (ks_nd P r_1 k))) rfl dL_law_174 ?_
        refine g_iconst (v := (3 : Int32)) B dL_law_175 (by decide) ?_
        refine g_iload B dL_law_176 13 rfl ?_
        refine g_iconst (v := (2 : Int32)) B dL_law_178 (by decide) ?_
        refine g_irem (v := nI ((ks_ek P r_1 k) % 2)) B dL_law_179 (by decide) (pk_rem (a := ks_ek P r_1 k) (d := 2) (by omega) (by decide) (by decide)) ?_
        refine g_iadd (v := nI (3 + ((ks_ek P r_1 k) % 2))) B dL_law_180 (nI_add 3 ((ks_ek P r_1 k) % 2)) ?_
        refine g_iald B hK _ 0 (tl_g1 (i := (ks_nd P r_1 k)) (by omega)) rfl (3 + ((ks_ek P r_1 k) % 2)) rfl (by omega) (by omega) (v := ((ks_nr P) (ks_nd P r_1 k) (3 + ((ks_ek P r_1 k) % 2)))) (rfl) dL_law_181 ?_
        refine g_eqi (y := ks_tI (ks_nd P r_1 (k + 1))) (by rw [nr_next hek2, (ks_step hgo).1]) ?_
        refine g_istore (lv' := [(0, .ref b), (1, .int (nI tm)), (2, .ref gb), (3, .ref hb), (4, .int (nI sp)), (5, .long bf), (7, .int (nI kk)), (8, .int (nI r_1)), (9, .int (nI (ks_rs P r_1))), (10, .int (nI (ks_ed (ks_fd P r_1)))), (11, .int (nI (ks_ek P r_1 k))), (12, .int (ks_tI (ks_nd P r_1 (k + 1)))), (13, .int (nI k)), (14, .int (nI (ks_ek P r_1 k)))]) B dL_law_182 (by decide) [1, 2, 3, 4, 5, 6, 7, 8, 9, 10, 11, 0, 12, 13] rfl ?_
        refine g_eqlv (lv2 := [(0, .ref b), (1, .int (nI tm)), (2, .ref gb), (3, .ref hb), (4, .int (nI sp)), (5, .long bf), (7, .int (nI kk)), (8, .int (nI r_1)), (9, .int (nI (ks_rs P r_1))), (10, .int (nI (ks_ed (ks_fd P r_1)))), (11, .int (ks_rI (k + 1) (ks_rk P r_1 (k + 1)))), (12, .int (ks_tI (ks_nd P r_1 (k + 1)))), (13, .int (nI k)), (14, .int (nI (ks_ek P r_1 k)))]) (by rw [fw_rI hgo]) ?_
        refine g_iinc (lv' := [(0, .ref b), (1, .int (nI tm)), (2, .ref gb), (3, .ref hb), (4, .int (nI sp)), (5, .long bf), (7, .int (nI kk)), (8, .int (nI r_1)), (9, .int (nI (ks_rs P r_1))), (10, .int (nI (ks_ed (ks_fd P r_1)))), (11, .int (ks_rI (k + 1) (ks_rk P r_1 (k + 1)))), (12, .int (ks_tI (ks_nd P r_1 (k + 1)))), (13, .int (nI (k + 1))), (14, .int (nI (ks_ek P r_1 k)))]) B dL_law_184 12 rfl (nI_1 k) (by decide) [1, 2, 3, 4, 5, 6, 7, 8, 9, 10, 11, 12, 0, 13] rfl ?_
        refine g_goto (tgt := 119) B dL_law_187 (by decide) ?_
        refine g_widen (k := nc + 0 * (k + 1)) (n := ns + 0 * (k + 1)) (by (try dsimp only); omega) (by (try dsimp only); omega) ?_
        have ihx71 := ih119 (k + 1, fp2_69)
        try dsimp only at ihx71
        exact g_pick [0, 1, 2, 3, 4, 5, 6, 7, 8, 9, 10, 11, 12] rfl (ihx71 (⟨by omega, lt_s i2 hgo⟩) (by (try dsimp only); omega))

