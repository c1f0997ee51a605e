/-! MY LAYER FOR p28: the script, the tail (rows of ints in four families), rows of rows, doubles -/
theorem app_get {α : Type} (X Y : List α) (i : Nat) : (X ++ Y)[X.length + i]? = Y[i]? := by
  rw [List.getElem?_append_right (by omega)]
  congr 1
  omega
theorem app_getl {α : Type} {X Y : List α} {i : Nat} {x : α} (h : X[i]? = some x) : (X ++ Y)[i]? = some x := by
  rw [List.getElem?_append_left (List.getElem?_eq_some_iff.mp h).1]
  exact h
theorem app_set {α : Type} (X Y : List α) (i : Nat) (x : α) : (X ++ Y).set (X.length + i) x = X ++ Y.set i x := by
  rw [List.set_append_right _ _ (by omega)]
  congr 2
  omega
theorem app_setl {α : Type} {X Y : List α} {i : Nat} {x : α} (h : i < X.length) : (X ++ Y).set i x = X.set i x ++ Y := List.set_append_left _ _ h
/-- rows of N ints: n of them, at the addresses ad, with the contents f -/
def tl_F (cI : ClassId) (N n : Nat) (ad : Nat → Nat) (f : Nat → Nat → Int32) : va_W := (List.range n).map (fun i => ((ad i, .inl (cI, N, .inl (f i))) : Nat × va_E))
theorem tl_len {cI : ClassId} {N n : Nat} {ad : Nat → Nat} {f : Nat → Nat → Int32} : (tl_F cI N n ad f).length = n := by simp [tl_F]
theorem tl_get {cI : ClassId} {N n i : Nat} {ad : Nat → Nat} {f : Nat → Nat → Int32} (h : i < n) : (tl_F cI N n ad f)[i]? = some (ad i, .inl (cI, N, .inl (f i))) := by
  simp [tl_F, List.getElem?_map, List.getElem?_range h]
theorem tl_congr {cI : ClassId} {N n : Nat} {ad ad' : Nat → Nat} {f f' : Nat → Nat → Int32} (h1 : ∀ i, i < n → ad i = ad' i) (h2 : ∀ i, i < n → f i = f' i) : tl_F cI N n ad f = tl_F cI N n ad' f' := by
  unfold tl_F
  refine List.map_congr_left fun i hi => ?_
  have hi' := List.mem_range.mp hi
  rw [h1 i hi', h2 i hi']
/-- a row's contents changed -/
def tl_up (f : Nat → Nat → Int32) (i : Nat) (g : Nat → Int32) : Nat → Nat → Int32 := fun j => if j = i then g else f j
theorem tl_set {cI : ClassId} {N n i : Nat} {ad : Nat → Nat} {f : Nat → Nat → Int32} (g : Nat → Int32) : (tl_F cI N n ad f).set i (ad i, .inl (cI, N, .inl g)) = tl_F cI N n ad (tl_up f i g) := by
  apply List.ext_getElem?
  intro j
  rw [List.getElem?_set]
  by_cases hj : j < n
  · by_cases hij : i = j
    · subst hij
      rw [if_pos rfl, if_pos (by rw [tl_len]; exact hj), tl_get hj]
      simp [tl_up]
    · rw [if_neg hij, tl_get hj, tl_get hj]
      simp [tl_up, Ne.symm hij]
  · have e1 : (tl_F cI N n ad f)[j]? = none := List.getElem?_eq_none (by rw [tl_len]; omega)
    have e2 : (tl_F cI N n ad (tl_up f i g))[j]? = none := List.getElem?_eq_none (by rw [tl_len]; omega)
    rw [e1, e2]
    by_cases hij : i = j
    · subst hij
      rw [if_pos rfl, if_neg (by rw [tl_len]; exact hj)]
    · rw [if_neg hij]
theorem tl_push {cI : ClassId} {N n q : Nat} {ad : Nat → Nat} {f : Nat → Nat → Int32} (g : Nat → Int32) : tl_F cI N n ad f ++ [(q, .inl (cI, N, .inl g))] = tl_F cI N (n + 1) (va_up ad n q) (tl_up f n g) := by
  have h : tl_F cI N n ad f = tl_F cI N n (va_up ad n q) (tl_up f n g) := tl_congr (fun i hi => by rw [va_up_ne _ _ (by omega)]) (fun i hi => by simp [tl_up, Nat.ne_of_lt hi])
  rw [h]
  unfold tl_F
  rw [List.range_succ, List.map_append]
  simp [tl_up, va_up]
/-- the tail: rows of the nodes (6 ints), the weights, the relations, the known cases (3 ints) -/
def tl_T (cI : ClassId) (n1 : Nat) (a1 : Nat → Nat) (f1 : Nat → Nat → Int32) (n2 : Nat) (a2 : Nat → Nat) (f2 : Nat → Nat → Int32) (n3 : Nat) (a3 : Nat → Nat) (f3 : Nat → Nat → Int32) (n4 : Nat) (a4 : Nat → Nat) (f4 : Nat → Nat → Int32) : va_W := tl_F cI 6 n1 a1 f1 ++ (tl_F cI 3 n2 a2 f2 ++ (tl_F cI 3 n3 a3 f3 ++ tl_F cI 3 n4 a4 f4))
section TLS
variable {cI : ClassId} {n1 : Nat} {a1 : Nat → Nat} {f1 : Nat → Nat → Int32} {n2 : Nat} {a2 : Nat → Nat} {f2 : Nat → Nat → Int32} {n3 : Nat} {a3 : Nat → Nat} {f3 : Nat → Nat → Int32} {n4 : Nat} {a4 : Nat → Nat} {f4 : Nat → Nat → Int32} {X : va_W} {i : Nat}
theorem tl_g1 (h : i < n1) : (X ++ tl_T cI n1 a1 f1 n2 a2 f2 n3 a3 f3 n4 a4 f4)[X.length + i]? = some (a1 i, .inl (cI, 6, .inl (f1 i))) := by
  rw [app_get]
  exact app_getl (tl_get h)
theorem tl_g2 (h : i < n2) : (X ++ tl_T cI n1 a1 f1 n2 a2 f2 n3 a3 f3 n4 a4 f4)[X.length + (n1 + i)]? = some (a2 i, .inl (cI, 3, .inl (f2 i))) := by
  rw [app_get]
  have := app_get (tl_F cI 6 n1 a1 f1) (tl_F cI 3 n2 a2 f2 ++ (tl_F cI 3 n3 a3 f3 ++ tl_F cI 3 n4 a4 f4)) i
  rw [tl_len] at this
  exact this.trans (app_getl (tl_get h))
theorem tl_g3 (h : i < n3) : (X ++ tl_T cI n1 a1 f1 n2 a2 f2 n3 a3 f3 n4 a4 f4)[X.length + (n1 + (n2 + i))]? = some (a3 i, .inl (cI, 3, .inl (f3 i))) := by
  rw [app_get]
  have e1 := app_get (tl_F cI 6 n1 a1 f1) (tl_F cI 3 n2 a2 f2 ++ (tl_F cI 3 n3 a3 f3 ++ tl_F cI 3 n4 a4 f4)) (n2 + i)
  have e2 := app_get (tl_F cI 3 n2 a2 f2) (tl_F cI 3 n3 a3 f3 ++ tl_F cI 3 n4 a4 f4) i
  rw [tl_len] at e1 e2
  exact e1.trans (e2.trans (app_getl (tl_get h)))
theorem tl_g4 (h : i < n4) : (X ++ tl_T cI n1 a1 f1 n2 a2 f2 n3 a3 f3 n4 a4 f4)[X.length + (n1 + (n2 + (n3 + i)))]? = some (a4 i, .inl (cI, 3, .inl (f4 i))) := by
  rw [app_get]
  have e1 := app_get (tl_F cI 6 n1 a1 f1) (tl_F cI 3 n2 a2 f2 ++ (tl_F cI 3 n3 a3 f3 ++ tl_F cI 3 n4 a4 f4)) (n2 + (n3 + i))
  have e2 := app_get (tl_F cI 3 n2 a2 f2) (tl_F cI 3 n3 a3 f3 ++ tl_F cI 3 n4 a4 f4) (n3 + i)
  have e3 := app_get (tl_F cI 3 n3 a3 f3) (tl_F cI 3 n4 a4 f4) i
  rw [tl_len] at e1 e2 e3
  exact e1.trans (e2.trans (e3.trans (tl_get h)))
theorem tl_s1 {g : Nat → Int32} (h : i < n1) : (X ++ tl_T cI n1 a1 f1 n2 a2 f2 n3 a3 f3 n4 a4 f4).set (X.length + i) (a1 i, .inl (cI, 6, .inl g)) = X ++ tl_T cI n1 a1 (tl_up f1 i g) n2 a2 f2 n3 a3 f3 n4 a4 f4 := by
  rw [app_set]
  unfold tl_T
  rw [app_setl (by rw [tl_len]; exact h), tl_set]
theorem tl_s2 {g : Nat → Int32} (h : i < n2) : (X ++ tl_T cI n1 a1 f1 n2 a2 f2 n3 a3 f3 n4 a4 f4).set (X.length + (n1 + i)) (a2 i, .inl (cI, 3, .inl g)) = X ++ tl_T cI n1 a1 f1 n2 a2 (tl_up f2 i g) n3 a3 f3 n4 a4 f4 := by
  rw [app_set]
  unfold tl_T
  have e1 := app_set (tl_F cI 6 n1 a1 f1) (tl_F cI 3 n2 a2 f2 ++ (tl_F cI 3 n3 a3 f3 ++ tl_F cI 3 n4 a4 f4)) i (a2 i, .inl (cI, 3, .inl g))
  rw [tl_len] at e1
  rw [e1, app_setl (by rw [tl_len]; exact h), tl_set]
theorem tl_s3 {g : Nat → Int32} (h : i < n3) : (X ++ tl_T cI n1 a1 f1 n2 a2 f2 n3 a3 f3 n4 a4 f4).set (X.length + (n1 + (n2 + i))) (a3 i, .inl (cI, 3, .inl g)) = X ++ tl_T cI n1 a1 f1 n2 a2 f2 n3 a3 (tl_up f3 i g) n4 a4 f4 := by
  rw [app_set]
  unfold tl_T
  have e1 := app_set (tl_F cI 6 n1 a1 f1) (tl_F cI 3 n2 a2 f2 ++ (tl_F cI 3 n3 a3 f3 ++ tl_F cI 3 n4 a4 f4)) (n2 + i) (a3 i, .inl (cI, 3, .inl g))
  have e2 := app_set (tl_F cI 3 n2 a2 f2) (tl_F cI 3 n3 a3 f3 ++ tl_F cI 3 n4 a4 f4) i (a3 i, .inl (cI, 3, .inl g))
  rw [tl_len] at e1 e2
  rw [e1, e2, app_setl (by rw [tl_len]; exact h), tl_set]
theorem tl_s4 {g : Nat → Int32} (h : i < n4) : (X ++ tl_T cI n1 a1 f1 n2 a2 f2 n3 a3 f3 n4 a4 f4).set (X.length + (n1 + (n2 + (n3 + i)))) (a4 i, .inl (cI, 3, .inl g)) = X ++ tl_T cI n1 a1 f1 n2 a2 f2 n3 a3 f3 n4 a4 (tl_up f4 i g) := by
  rw [app_set]
  unfold tl_T
  have e1 := app_set (tl_F cI 6 n1 a1 f1) (tl_F cI 3 n2 a2 f2 ++ (tl_F cI 3 n3 a3 f3 ++ tl_F cI 3 n4 a4 f4)) (n2 + (n3 + i)) (a4 i, .inl (cI, 3, .inl g))
  have e2 := app_set (tl_F cI 3 n2 a2 f2) (tl_F cI 3 n3 a3 f3 ++ tl_F cI 3 n4 a4 f4) (n3 + i) (a4 i, .inl (cI, 3, .inl g))
  have e3 := app_set (tl_F cI 3 n3 a3 f3) (tl_F cI 3 n4 a4 f4) i (a4 i, .inl (cI, 3, .inl g))
  rw [tl_len] at e1 e2 e3
  rw [e1, e2, e3, tl_set]
theorem tl_c1 {g : Nat → Nat → Int32} (h : ∀ i, i < n1 → f1 i = g i) : X ++ tl_T cI n1 a1 f1 n2 a2 f2 n3 a3 f3 n4 a4 f4 = X ++ tl_T cI n1 a1 g n2 a2 f2 n3 a3 f3 n4 a4 f4 := by unfold tl_T; rw [tl_congr (fun _ _ => rfl) h]
theorem tl_c2 {g : Nat → Nat → Int32} (h : ∀ i, i < n2 → f2 i = g i) : X ++ tl_T cI n1 a1 f1 n2 a2 f2 n3 a3 f3 n4 a4 f4 = X ++ tl_T cI n1 a1 f1 n2 a2 g n3 a3 f3 n4 a4 f4 := by unfold tl_T; rw [tl_congr (N := 3) (n := n2) (fun _ _ => rfl) h]
theorem tl_c3 {g : Nat → Nat → Int32} (h : ∀ i, i < n3 → f3 i = g i) : X ++ tl_T cI n1 a1 f1 n2 a2 f2 n3 a3 f3 n4 a4 f4 = X ++ tl_T cI n1 a1 f1 n2 a2 f2 n3 a3 g n4 a4 f4 := by unfold tl_T; rw [tl_congr (N := 3) (n := n3) (fun _ _ => rfl) h]
theorem tl_c4 {g : Nat → Nat → Int32} (h : ∀ i, i < n4 → f4 i = g i) : X ++ tl_T cI n1 a1 f1 n2 a2 f2 n3 a3 f3 n4 a4 f4 = X ++ tl_T cI n1 a1 f1 n2 a2 f2 n3 a3 f3 n4 a4 g := by unfold tl_T; rw [tl_congr (N := 3) (n := n4) (fun _ _ => rfl) h]
/-- one more row of a family: a cell from the front goes into the tail -/
theorem tl_pm {α : Type} (X A R : List α) (c : α) : ((X ++ [c]) ++ (A ++ R)).Perm (X ++ ((A ++ [c]) ++ R)) := by
  simp only [List.append_assoc, List.singleton_append]
  exact List.Perm.append_left X List.perm_middle.symm
theorem tl_i1 {q : Nat} {g : Nat → Int32} : ((X ++ [((q, .inl (cI, 6, .inl g)) : Nat × va_E)]) ++ tl_T cI n1 a1 f1 n2 a2 f2 n3 a3 f3 n4 a4 f4).Perm (X ++ tl_T cI (n1 + 1) (va_up a1 n1 q) (tl_up f1 n1 g) n2 a2 f2 n3 a3 f3 n4 a4 f4) := by
  unfold tl_T
  rw [← tl_push]
  exact tl_pm _ _ _ _
theorem tl_i2 {q : Nat} {g : Nat → Int32} : ((X ++ [((q, .inl (cI, 3, .inl g)) : Nat × va_E)]) ++ tl_T cI n1 a1 f1 n2 a2 f2 n3 a3 f3 n4 a4 f4).Perm (X ++ tl_T cI n1 a1 f1 (n2 + 1) (va_up a2 n2 q) (tl_up f2 n2 g) n3 a3 f3 n4 a4 f4) := by
  unfold tl_T
  rw [← tl_push]
  have := tl_pm X (tl_F cI 6 n1 a1 f1 ++ tl_F cI 3 n2 a2 f2) (tl_F cI 3 n3 a3 f3 ++ tl_F cI 3 n4 a4 f4) ((q, .inl (cI, 3, .inl g)) : Nat × va_E)
  simpa only [List.append_assoc] using this
theorem tl_i3 {q : Nat} {g : Nat → Int32} : ((X ++ [((q, .inl (cI, 3, .inl g)) : Nat × va_E)]) ++ tl_T cI n1 a1 f1 n2 a2 f2 n3 a3 f3 n4 a4 f4).Perm (X ++ tl_T cI n1 a1 f1 n2 a2 f2 (n3 + 1) (va_up a3 n3 q) (tl_up f3 n3 g) n4 a4 f4) := by
  unfold tl_T
  rw [← tl_push]
  have := tl_pm X (tl_F cI 6 n1 a1 f1 ++ (tl_F cI 3 n2 a2 f2 ++ tl_F cI 3 n3 a3 f3)) (tl_F cI 3 n4 a4 f4) ((q, .inl (cI, 3, .inl g)) : Nat × va_E)
  simpa only [List.append_assoc] using this
theorem tl_i4 {q : Nat} {g : Nat → Int32} : ((X ++ [((q, .inl (cI, 3, .inl g)) : Nat × va_E)]) ++ tl_T cI n1 a1 f1 n2 a2 f2 n3 a3 f3 n4 a4 f4).Perm (X ++ tl_T cI n1 a1 f1 n2 a2 f2 n3 a3 f3 (n4 + 1) (va_up a4 n4 q) (tl_up f4 n4 g)) := by
  unfold tl_T
  rw [← tl_push]
  have := tl_pm X (tl_F cI 6 n1 a1 f1 ++ (tl_F cI 3 n2 a2 f2 ++ (tl_F cI 3 n3 a3 f3 ++ tl_F cI 3 n4 a4 f4))) [] ((q, .inl (cI, 3, .inl g)) : Nat × va_E)
  simpa only [List.append_assoc, List.append_nil] using this
end TLS
theorem tl_sw {α : Type} (X T : List α) (c : α) : ((X ++ T) ++ [c]).Perm ((X ++ [c]) ++ T) := by
  have := (tl_pm X T [] c).symm
  simpa only [List.append_assoc, List.append_nil] using this
theorem va_P.perm {D : va_G} {cl : List vw_C} {w w2 : va_W} {H : Heap} (hp : w.Perm w2) (h : va_P D cl w H) : va_P D cl w2 H := fun k q hk => by
  have h1 : q ∈ w := hp.mem_iff.mpr (List.mem_of_getElem? hk)
  obtain ⟨j, hj⟩ := List.getElem?_of_mem h1
  exact h j q hj
theorem va_D.nodup {A : Nat → Prop} {w : va_W} (h : va_D A w) : (w.map (fun q => q.1)).Nodup := by
  unfold List.Nodup
  rw [List.pairwise_iff_getElem]
  intro i j hi hj hij e
  rw [List.length_map] at hi hj
  rw [List.getElem_map, List.getElem_map] at e
  have := h.1 i j w[i] w[j] (List.getElem?_eq_getElem hi) (List.getElem?_eq_getElem hj) e
  omega
theorem va_D.of {A : Nat → Prop} {w : va_W} (h1 : (w.map (fun q => q.1)).Nodup) (h2 : ∀ q ∈ w, A q.1) : va_D A w := by
  unfold List.Nodup at h1
  rw [List.pairwise_iff_getElem] at h1
  refine ⟨fun i j p q hi hj e => ?_, fun k q hk => h2 q (List.mem_of_getElem? hk)⟩
  obtain ⟨li, ei⟩ := List.getElem?_eq_some_iff.mp hi
  obtain ⟨lj, ej⟩ := List.getElem?_eq_some_iff.mp hj
  rcases Nat.lt_trichotomy i j with h | h | h
  · exact absurd (by rw [List.getElem_map, List.getElem_map, ei, ej]; exact e) (h1 i j (by rw [List.length_map]; exact li) (by rw [List.length_map]; exact lj) h)
  · exact h
  · exact absurd (by rw [List.getElem_map, List.getElem_map, ei, ej]; exact e.symm) (h1 j i (by rw [List.length_map]; exact lj) (by rw [List.length_map]; exact li) h)
theorem va_D.perm {A : Nat → Prop} {w w2 : va_W} (hp : w.Perm w2) (h : va_D A w) : va_D A w2 :=
  va_D.of ((hp.map _).nodup_iff.mp h.nodup) (fun q hq => by
    obtain ⟨k, hk⟩ := List.getElem?_of_mem (hp.mem_iff.mpr hq)
    exact h.2 k q hk)
/-- the script: at b, of L ints xs; nobody writes it -/
def gEX (b L : Nat) (xs : Nat → Int32) (B : Nat → Prop) (U : State) : Prop := va_X b L xs U U.heap ∧ b < U.heap.size ∧ ¬ B b
def gPe (D : va_G) (tys : List (ClassId × FieldType)) (av : List Value) (w : va_W) (b L : Nat) (xs : Nat → Int32) (sz : Nat) : Array Value → State → Prop := va_Pc av (fun U => U.heap.size = sz ∧ va_D (fun _ => True) w ∧ gEX b L xs (va_A w sz) U ∧ gB D tys w U)
theorem gPe.blind {D : va_G} {tys : List (ClassId × FieldType)} {av : List Value} {w : va_W} {b L : Nat} {xs : Nat → Int32} {sz : Nat} : FrameBlind (gPe D tys av w b L xs sz) := fun a U g mk q => ⟨q.1, q.2.1, q.2.2.1, ⟨va_X.moved (u := U) (U := U.calling g mk a) (Vm.Alike.refl U.vm) q.2.2.2.1.1, q.2.2.2.1.2.1, q.2.2.2.1.2.2⟩, q.2.2.2.2.calling g mk a⟩
/-- a method that reads the script -/
def EM (l : Launch) (y : MethodName) (ws : List Cond) (rm : Room) (D : va_G) (tys : List (ClassId × FieldType)) (av : List Value) (w : va_W) (b L : Nat) (xs : Nat → Int32) {S : Type} (post : S → Prop) (v : S → Option Value) (w' : S → va_W) : Prop := ∀ sz : Nat, Met l y ws rm (gPe D tys av w b L xs sz) (gQw D post v w' (va_A w sz)) rm.cells rm.slots (va_A w sz)
theorem EM.ofG {l : Launch} {y : MethodName} {ws ws' : List Cond} {rm : Room} {D : va_G} {tys : List (ClassId × FieldType)} {av : List Value} {w : va_W} {b L : Nat} {xs : Nat → Int32} {S : Type} {post : S → Prop} {v : S → Option Value} {w' : S → va_W} (cc : ByteArray) (maxL : Nat) (ret : Option FieldType) (hy : plainName y.cls = true) (hw : ws = Cond.code y cc maxL ret :: ws') (hlen : (lg_sl av).length ≤ maxL)
    (body : ∀ (p : Program) (e : Env) (s : State) (m : MethodId) (below : List Frame) (meth : Method) (c : Code) (A : Nat → Prop), (∀ q, s.heap.size ≤ q → A q) → va_X b L xs s s.heap → b < s.heap.size → ¬ A b → CallFix p m c cc maxL s av.toArray ws y.cls → meth.sig.returnType = ret → meth.locks = false → meth.name = y.name → va_K D vwCl tys s → NWs s →
      G p l e rm s m av.toArray below meth c (MQ below (gQw D post v w' A) av.toArray s rm.cells rm.slots A) D A A maxL 0 0 w (lv_args 0 av) 0 []) : EM l y ws rm D tys av w b L xs post v w' := by
  intro sz
  refine Met.ofW (cc := cc) (maxL := maxL) (ret := ret) hy hw ?_
  intro p e s m args below meth c s₁ Bd hml hv
  obtain ⟨rfl, hsz, hD, hE, hP, hK, hN⟩ := hv
  subst hsz
  have hb := body p e s m below meth c (va_A w s.heap.size) (fun q h => Or.inr h) hE.1 hE.2.1 hE.2.2 ⟨Bd.exec, Bd.bytes, hml, findClass_of_methodNamed Bd.named, atoms_spec (ws := ws) Bd.pre⟩ Bd.returns Bd.notSynchronized (name_of_methodNamed Bd.named Bd.method).1 hK hN
  rw [lg_entry_eq]
  exact hb s.heap [] _ hP hD.self va_S.rf (lv_entry av hlen)
section GT2
variable {p : Program} {l : Launch} {e : Env} {R : Room} {s : State} {m : MethodId} {args : Array Value} {below : List Frame} {meth : Method} {c : Code} {Q : State → Prop} {D : va_G} {AD A : Nat → Prop} {nL cells slots : Nat} {w : va_W} {lv : List (Nat × Value)} {pc : Nat} {st : List Value} {cc : ByteArray} {Ts : List Cond} {own : String} {tys : List (ClassId × FieldType)}
theorem g_sld (B : CallFix p m c cc nL s args Ts own) {b L : Nat} {xs : Nat → Int32} (hX : va_X b L xs s s.heap) (hbl : b < s.heap.size) (hbA : ¬ A b) {i : Int32} (k : Nat) (hi : i = nI k) (hk : k < L) (hn : L < 2 ^ 31) {v : Int32} (hv : xs k = v) (hdg : decode cc pc = .ok (.iaload, 1))
    (kk : G p l e R s m args below meth c Q D AD A nL cells slots w lv (pc + 1) (.int v :: st)) : G p l e R s m args below meth c Q D AD A nL cells slots w lv pc (.int i :: .ref b :: st) := by
  subst hi; subst hv
  intro H locs ls hP hD hS hl
  refine va_sld B.1 B.2.1 hX hbl hbA hS (vp_in_nI hk hn) hdg ?_
  rw [nI_clamp (Nat.lt_trans hk hn)]
  exact kk H locs ls hP hD hS hl
theorem g_slen (B : CallFix p m c cc nL s args Ts own) {b L : Nat} {xs : Nat → Int32} (hX : va_X b L xs s s.heap) (hbl : b < s.heap.size) (hbA : ¬ A b) (hdg : decode cc pc = .ok (.arraylength, 1))
    (kk : G p l e R s m args below meth c Q D AD A nL cells slots w lv (pc + 1) (.int (Int32.ofNat L) :: st)) : G p l e R s m args below meth c Q D AD A nL cells slots w lv pc (.ref b :: st) := by
  intro H locs ls hP hD hS hl
  exact va_slen B.1 B.2.1 hX hbl hbA hS hdg (kk H locs ls hP hD hS hl)
theorem as_self (vm : Vm) (cl : ClassId) : vm.assignable cl cl = true := by
  show vm.assignableAux (255 + 1) cl cl = true
  rw [Vm.assignableAux]
  simp
theorem g_eqlv {lv2 : List (Nat × Value)} (h : lv = lv2) (kk : G p l e R s m args below meth c Q D AD A nL cells slots w lv2 pc st) : G p l e R s m args below meth c Q D AD A nL cells slots w lv pc st := by subst h; exact kk
theorem g_eqd {x y : UInt64} (h : x = y) (kk : G p l e R s m args below meth c Q D AD A nL cells slots w lv pc (.double y :: st)) : G p l e R s m args below meth c Q D AD A nL cells slots w lv pc (.double x :: st) := by subst h; exact kk
theorem g_eqst {st2 : List Value} (h : st = st2) (kk : G p l e R s m args below meth c Q D AD A nL cells slots w lv pc st2) : G p l e R s m args below meth c Q D AD A nL cells slots w lv pc st := by subst h; exact kk
/-- another order of the world's cells -/
theorem g_perm {w2 : va_W} (h : w.Perm w2) (kk : G p l e R s m args below meth c Q D AD A nL cells slots w2 lv pc st) : G p l e R s m args below meth c Q D AD A nL cells slots w lv pc st := fun H locs ls hP hD hS hl => kk H locs ls (hP.perm h) (hD.perm h) hS hl
/-- fewer cells -/
theorem g_sub {w2 : va_W} (is : List Nat) (hn : va_nd is = true) (h : is.map (fun i => w[i]?) = w2.map some) (kk : G p l e R s m args below meth c Q D AD A nL cells slots w2 lv pc st) : G p l e R s m args below meth c Q D AD A nL cells slots w lv pc st := fun H locs ls hP hD hS hl => kk H locs ls (gP_sub hP is h) (hD.sub is hn h) hS hl
theorem g_subT {X X2 T : va_W} (is : List Nat) (hn : va_nd is = true) (h : is.map (fun i => X[i]?) = X2.map some) (kk : G p l e R s m args below meth c Q D AD A nL cells slots (X2 ++ T) lv pc st) : G p l e R s m args below meth c Q D AD A nL cells slots (X ++ T) lv pc st := fun H locs ls hP hD hS hl => kk H locs ls (hP.part is h) (hD.part is hn h) hS hl
/-- returns where the world is as it stands -/
theorem g_iret_x {S : Type} {post : S → Prop} {v : S → Option Value} {w' : S → va_W} {x : Int32} (B : CallFix p m c cc nL s args Ts own) {ty : FieldType} (hr : meth.sig.returnType = some ty) (hnar : narrow ty (.int x) = .int x) (hlocks : meth.locks = false) (u : S) (hv : v u = some (.int x)) (hp : post u) (hw : w = w' u) (hdg : decode cc pc = .ok (.ireturn, 1)) : G p l e R s m args below meth c (MQ below (gQw D post v w' A) args s cells slots A) D A A nL cells slots w lv pc [.int x] := by
  subst hw
  intro H locs ls hP hD hS hl
  exact W.zret B.1 B.2.1 hr hnar (fun t ht hW => ⟨u, by rw [hv], hp, by rw [ht]; exact hP, hD, hS.F ht⟩) hS.2.2 hdg hlocks
theorem g_vret_x {S : Type} {post : S → Prop} {v : S → Option Value} {w' : S → va_W} (B : CallFix p m c cc nL s args Ts own) (hr : meth.sig.returnType = none) (hlocks : meth.locks = false) (u : S) (hv : v u = none) (hp : post u) (hw : w = w' u) (hdg : decode cc pc = .ok (.return_, 1)) : G p l e R s m args below meth c (MQ below (gQw D post v w' A) args s cells slots A) D A A nL cells slots w lv pc [] := by
  subst hw
  intro H locs ls hP hD hS hl
  exact W.vret B.1 B.2.1 hr (fun t ht hW => ⟨u, by rw [hv], hp, by rw [ht]; exact hP, hD, hS.F ht⟩) hS.2.2 hdg hlocks
theorem g_aret_x {S : Type} {post : S → Prop} {v : S → Option Value} {w' : S → va_W} {x : Nat} {ty : FieldType} (B : CallFix p m c cc nL s args Ts own) (hr : meth.sig.returnType = some ty) (hrt : (∃ n, ty = .object n) ∨ ∃ t, ty = .array t) (hlocks : meth.locks = false) (u : S) (hv : v u = some (.ref x)) (hp : post u) (hw : w = w' u) (hdg : decode cc pc = .ok (.areturn, 1)) : G p l e R s m args below meth c (MQ below (gQw D post v w' A) args s cells slots A) D A A nL cells slots w lv pc [.ref x] := by
  subst hw
  intro H locs ls hP hD hS hl
  exact W.aret B.1 B.2.1 hr hrt (Or.inr ⟨x, rfl⟩) (fun t ht hW => ⟨u, by rw [hv], hp, by rw [ht]; exact hP, hD, hS.F ht⟩) hS.2.2 hdg hlocks
theorem g_iushr (B : CallFix p m c cc nL s args Ts own) {x y v : Int32} (hdg : decode cc pc = .ok (.iushr, 1)) (hv : (x.toUInt32 >>> (y.toUInt32 &&& Int32.toUInt32 31)).toInt32 = v) (kk : G p l e R s m args below meth c Q D AD A nL cells slots w lv (pc + 1) (.int v :: st)) : G p l e R s m args below meth c Q D AD A nL cells slots w lv pc (.int y :: .int x :: st) := by
  intro H locs ls hP hD hS hl
  exact lv_iushr B.1 B.2.1 hdg hv (kk H locs ls hP hD hS hl)
/-- doubles -/
theorem g_dadd (B : CallFix p m c cc nL s args Ts own) {x y v : UInt64} (hdg : decode cc pc = .ok (.dadd, 1)) (hv : FP.dadd x y = v) (hne : vf_n64 v) (kk : G p l e R s m args below meth c Q D AD A nL cells slots w lv (pc + 1) (.double v :: st)) : G p l e R s m args below meth c Q D AD A nL cells slots w lv pc (.double y :: .double x :: st) := by
  subst hv
  intro H locs ls hP hD hS hl
  exact lv_dadd B.1 B.2.1 hdg hne (kk H locs ls hP hD hS hl)
theorem g_dsub (B : CallFix p m c cc nL s args Ts own) {x y v : UInt64} (hdg : decode cc pc = .ok (.dsub, 1)) (hv : FP.dsub x y = v) (hne : vf_n64 v) (kk : G p l e R s m args below meth c Q D AD A nL cells slots w lv (pc + 1) (.double v :: st)) : G p l e R s m args below meth c Q D AD A nL cells slots w lv pc (.double y :: .double x :: st) := by
  subst hv
  intro H locs ls hP hD hS hl
  exact lv_dsub B.1 B.2.1 hdg hne (kk H locs ls hP hD hS hl)
theorem g_dmul (B : CallFix p m c cc nL s args Ts own) {x y v : UInt64} (hdg : decode cc pc = .ok (.dmul, 1)) (hv : FP.dmul x y = v) (hne : vf_n64 v) (kk : G p l e R s m args below meth c Q D AD A nL cells slots w lv (pc + 1) (.double v :: st)) : G p l e R s m args below meth c Q D AD A nL cells slots w lv pc (.double y :: .double x :: st) := by
  subst hv
  intro H locs ls hP hD hS hl
  exact lv_dmul B.1 B.2.1 hdg hne (kk H locs ls hP hD hS hl)
theorem g_ddiv (B : CallFix p m c cc nL s args Ts own) {x y v : UInt64} (hdg : decode cc pc = .ok (.ddiv, 1)) (hv : FP.ddiv x y = v) (hne : vf_n64 v) (kk : G p l e R s m args below meth c Q D AD A nL cells slots w lv (pc + 1) (.double v :: st)) : G p l e R s m args below meth c Q D AD A nL cells slots w lv pc (.double y :: .double x :: st) := by
  subst hv
  intro H locs ls hP hD hS hl
  exact lv_ddiv B.1 B.2.1 hdg hne (kk H locs ls hP hD hS hl)
theorem g_i2d' (B : CallFix p m c cc nL s args Ts own) {x : Int32} {v : UInt64} (hdg : decode cc pc = .ok (.i2d, 1)) (hv : FP.i2d x = v) (kk : G p l e R s m args below meth c Q D AD A nL cells slots w lv (pc + 1) (.double v :: st)) : G p l e R s m args below meth c Q D AD A nL cells slots w lv pc (.int x :: st) := by
  subst hv
  intro H locs ls hP hD hS hl
  exact lv_i2d B.1 B.2.1 hdg (kk H locs ls hP hD hS hl)
theorem g_dcmp (B : CallFix p m c cc nL s args Ts own) {x y : UInt64} {op : CmpOp} {v : Int32} (hdg : decode cc pc = .ok (.dcmp op, 1)) (hv : Op.cmpValue (FP.dcmp x y) op = v) (kk : G p l e R s m args below meth c Q D AD A nL cells slots w lv (pc + 1) (.int v :: st)) : G p l e R s m args below meth c Q D AD A nL cells slots w lv pc (.double y :: .double x :: st) := by
  subst hv
  intro H locs ls hP hD hS hl
  exact lv_dcmp B.1 B.2.1 hdg (kk H locs ls hP hD hS hl)
theorem g_ldc2d (B : CallFix p m c cc nL s args Ts own) {index : Nat} {v : UInt64} (hdg : decode cc pc = .ok (.ldc2_w index, 3)) (hc : Cond.constantDouble own index v ∈ Ts) (kk : G p l e R s m args below meth c Q D AD A nL cells slots w lv (pc + 3) (.double v :: st)) : G p l e R s m args below meth c Q D AD A nL cells slots w lv pc st := by
  intro H locs ls hP hD hS hl
  exact lv_ldc2d B.1 B.2.1 B.2.2.2.1 (B.2.2.2.2 _ hc) hdg (kk H locs ls hP hD hS hl)
/-- rows of rows -/
theorem g_qald (B : CallFix p m c cc nL s args Ts own) (hK : va_K D vwCl tys s) (q0 t0 : Nat) {a : Nat} {cA : ClassId} {n : Nat} {f : Nat → Option Nat} (ha : w[q0]? = some (a, .inl (cA, n, .inr (.inr (.inr (.inr f)))))) (ht : tys[t0]? = some (cA, .array .int)) {i : Int32} (k : Nat) (hi : i = nI k) (hk : k < n) (hn : k < 2 ^ 31) {r : Nat} (hv : f k = some r) (hdg : decode cc pc = .ok (.aaload, 1)) (kk : G p l e R s m args below meth c Q D AD A nL cells slots w lv (pc + 1) (.ref r :: st)) : G p l e R s m args below meth c Q D AD A nL cells slots w lv pc (.int i :: .ref a :: st) := by
  intro H locs ls hP hD hS hl
  subst hi
  have hin : vp_in (nI k) n := by rw [vp_in, nI_clamp hn]; exact fun h => h.elim (nI_pos hn) (fun h => absurd hk (Nat.not_lt.mpr h))
  refine W.aald (v := .ref r) (ty := .array .int) B.1 B.2.1 (hP q0 _ ha) ((hK.2 t0 _ ht).1 n (fun j => va_rf (f j))) rfl (fun q => by cases q) (by show ¬ (nI k < 0 ∨ (arrV _ _ _).slots.size ≤ _); rw [arrV_size]; exact hin) ?_ rfl rfl hdg (kk H locs ls hP hD hS hl)
  show (arrV _ _ _).slots[_]? = _
  rw [nI_clamp hn, arrV_read _ _ hk, hv]
  rfl
theorem g_qast (B : CallFix p m c cc nL s args Ts own) (hK : va_K D vwCl tys s) (hN : NWs s) (q0 t0 qk t1 : Nat) {a v : Nat} {cA cI : ClassId} {n : Nat} {x : vp_A} {f f2 : Nat → Option Nat} (ha : w[q0]? = some (a, .inl (cA, n, .inr (.inr (.inr (.inr f)))))) (ht : tys[t0]? = some (cA, .array .int)) (hvr : w[qk]? = some (v, .inl (cI, x))) (ht1 : tys[t1]? = some (cI, .int)) {i : Int32} (k : Nat) (hi : i = nI k) (hk : k < n) (hn : k < 2 ^ 31) (hf : va_up f k (some v) = f2) {w2 : va_W} (hw2 : w.set q0 (a, .inl (cA, n, .inr (.inr (.inr (.inr f2))))) = w2) (hAD : ∀ q, AD q → A q) (hdg : decode cc pc = .ok (.aastore, 1)) (kk : G p l e R s m args below meth c Q D AD A nL cells slots w2 lv (pc + 1) st) : G p l e R s m args below meth c Q D AD A nL cells slots w lv pc (.ref v :: .int i :: .ref a :: st) := by
  intro H locs ls hP hD hS hl
  subst hi; subst hf; subst hw2
  obtain ⟨comp, c9, k9, h1, h2, h3, h4, h5⟩ := arrayOverA_spec hN.2.2
  have r0 : s.vm.findClass ("[" ++ (FieldType.array .int).toString) = some cA := (hK.2 t0 _ ht).2
  have r1 : s.vm.findClass ("[" ++ FieldType.int.toString) = some cI := (hK.2 t1 _ ht1).2
  cases h5.symm.trans r0
  have hci : comp = cI := Option.some.inj (h1.symm.trans ((by rfl : (FieldType.array .int).toString = "[" ++ FieldType.int.toString) ▸ r1))
  subst hci
  obtain ⟨kE, hkE, -⟩ := Vm.findClass_spec h1
  have hcv : H[v]? = some (vp_cell comp x) := hP qk _ hvr
  have e1 : (vp_cell comp x).cls = comp := by
    obtain ⟨n9, x9⟩ := x
    rcases x9 with x9 | x9 | x9 | x9 | x9 <;> rfl
  have e2 : (vp_cell comp x).vm = .none := by
    obtain ⟨n9, x9⟩ := x
    rcases x9 with x9 | x9 | x9 | x9 | x9 <;> rfl
  refine W.aast B.1 B.2.1 (hP q0 _ ha) (fun q h => by cases h) (fun h => by cases h) h3 h4 rfl hkE ⟨nI_pos hn, by show _ < (arrV _ _ _).slots.size; rw [arrV_size, nI_clamp hn]; exact hk⟩ hcv (fun q h => by rw [e2] at h; cases h) (by rw [e1]; exact hkE) (by rw [e1]; exact as_self _ _) rfl rfl hdg fun H1 e z oq => ?_
  refine kk H1 _ ls (hP.set (hD.weaken (fun _ q _ h => hAD _ h)) ha ?_ oq) (hD.set ha) (hS.put z oq (hAD _ (hD.2 q0 _ ha))) hl
  show H1[a]? = some (vp_cell _ _)
  rw [e, vp_cell_q, vp_cell_q, arrV_store, nI_clamp hn]
  congr 2
  funext q
  by_cases hq : q = k
  · subst hq
    simp [updV, va_up, va_rf]
  · simp [updV, va_up, hq]
theorem g_qnew (B : CallFix p m c cc nL s args Ts own) (hK : va_K D vwCl tys s) (hN : NWs s) (hA : ∀ q, s.heap.size ≤ q → A q) (t0 : Nat) {cA : ClassId} {index : Nat} (ht : tys[t0]? = some (cA, .array .int)) (hcl : Cond.classLink own index (FieldType.array .int).toString ∈ Ts) {n : Int32} {N' : Nat} (hn : ¬ n < 0) (hN' : n.toNatClampNeg = N') (hbytes : N' * 4 ≤ 536870912) (hcells : cells + 1 ≤ R.cells) (hslots : slots + N' ≤ R.slots) (hdg : decode cc pc = .ok (.anewarray index, 3))
    (kk : ∀ q : Nat, G p l e R s m args below meth c Q D A A nL (cells + 1) (slots + N') (w ++ [(q, .inl (cA, N', .inr (.inr (.inr (.inr (fun _ => none))))))]) lv (pc + 3) (.ref q :: st)) : G p l e R s m args below meth c Q D A A nL cells slots w lv pc (.int n :: st) := by
  intro H locs ls hP hD hS hl
  subst hN'
  refine W.anewA B.1 B.2.1 B.2.2.2.1 (B.2.2.2.2 _ hcl) hN.2.2 rfl hdg rfl hn hbytes hcells hslots fun cA9 kA comp f1 f2 f3 f4 => ?_
  have r0 : s.vm.findClass ("[" ++ (FieldType.array .int).toString) = some cA := (hK.2 t0 _ ht).2
  cases f1.symm.trans r0
  generalize hH1 : H.push ({ cls := cA, slots := Array.replicate n.toNatClampNeg .null, vm := .none } : Cell) = H1
  have z1 : H1.size = H.size + 1 := by rw [← hH1, Array.size_push]
  have e1 : H1[H.size]? = some (arrV cA n.toNatClampNeg (fun _ => .null)) := by rw [← hH1, Array.getElem?_push_size, ← arrV_new]
  have o1 : ∀ q : Nat, q < H.size → H1[q]? = H[q]? := fun q hq => by rw [← hH1, Array.getElem?_push, if_neg (Nat.ne_of_lt hq)]
  have hk : ∀ (k : Nat) (x : Nat × va_E), w[k]? = some x → H1[x.1]? = H[x.1]? := fun k x hx => o1 x.1 ((hP k x hx).lt)
  refine kk H.size H1 locs ls ((hP.kept hk).app (fun k x hx => ?_)) (hD.push hP rfl (hA _ hS.1)) ⟨Nat.le_trans hS.1 (by omega), fun x h1 h2 => (o1 x (Nat.lt_of_lt_of_le h1 hS.1)).trans (hS.2.1 x h1 h2), hS.2.2⟩ hl
  have hz : k < 1 := (List.getElem?_eq_some_iff.mp hx).1
  rw [show k = 0 by omega] at hx
  cases hx
  show H1[H.size]? = some (vp_cell _ _)
  rw [vp_cell_q]
  exact e1
/-- a row of rows seen otherwise, within its length -/
theorem g_arrQ (q0 : Nat) {a : Nat} {cA : ClassId} {n : Nat} {f : Nat → Option Nat} (f2 : Nat → Option Nat) (ha : w[q0]? = some (a, .inl (cA, n, .inr (.inr (.inr (.inr f)))))) (hf : ∀ i, i < n → f i = f2 i) {w2 : va_W} (hw2 : w.set q0 (a, .inl (cA, n, .inr (.inr (.inr (.inr f2))))) = w2) (kk : G p l e R s m args below meth c Q D AD A nL cells slots w2 lv pc st) : G p l e R s m args below meth c Q D AD A nL cells slots w lv pc st := by
  intro H locs ls hP hD hS hl
  subst hw2
  refine kk H locs ls (fun k q hq => ?_) (hD.set ha) hS hl
  by_cases hk : q0 = k
  · subst hk
    have hlt : q0 < w.length := (List.getElem?_eq_some_iff.mp ha).1
    rw [List.getElem?_set_self hlt] at hq
    cases hq
    have h0 : H[a]? = some (vp_cell cA (n, .inr (.inr (.inr (.inr f))))) := hP q0 _ ha
    show H[a]? = some (vp_cell cA (n, .inr (.inr (.inr (.inr f2)))))
    rw [h0, vp_cell_q, vp_cell_q]
    congr 1
    unfold arrV
    congr 1
    congr 1
    funext j
    show va_rf (f j.val) = va_rf (f2 j.val)
    rw [hf j.val j.isLt]
  · rw [List.getElem?_set_ne hk] at hq
    exact hP k q hq
/-- rows of rows copied -/
theorem g_qcopy (B : CallFix p m c cc nL s args Ts own) {index : Nat} (hK : va_K D vwCl tys s) (hN : NWs s) (hlink : Cond.methodLink own index arraycopyName ∈ Ts) (hnat : Cond.native arraycopyName ∈ Ts) (hstat : Cond.static arraycopyName ∈ Ts) (hini : Cond.initialized "java/lang/System" ∈ Ts) (q0 q1 t0 t1 : Nat) {a0 a : Nat} {cA cI : ClassId} {n0 n1 : Nat} {f g : Nat → Option Nat} (ha0 : w[q0]? = some (a0, .inl (cA, n0, .inr (.inr (.inr (.inr f)))))) (ha1 : w[q1]? = some (a, .inl (cA, n1, .inr (.inr (.inr (.inr g)))))) (ht0 : tys[t0]? = some (cA, .array .int)) (ht1 : tys[t1]? = some (cI, .int)) {n : Int32} (n' : Nat) (hn : n = nI n') (hb : n' < 2 ^ 31) (h4 : n' ≤ n0) (h5 : n' ≤ n1) (hel : ∀ i, i < n' → ∃ (y qk : Nat) (x : vp_A), f i = some y ∧ w[qk]? = some (y, .inl (cI, x))) {w2 : va_W} (hw2 : w.set q1 (a, .inl (cA, n1, .inr (.inr (.inr (.inr (va_cpy f g 0 0 n')))))) = w2) (hAD : ∀ q, AD q → A q) (hframes : 1 ≤ R.frames) (hlocals : (st.map fun v => v.category).sum + (nativeFrameWords "java/lang/System" "arraycopy" 5 + 11) ≤ R.locals) (hdg : decode cc pc = .ok (.invokestatic index, 3)) (kk : G p l e R s m args below meth c Q D AD A nL cells slots w2 lv (pc + 3) st) : G p l e R s m args below meth c Q D AD A nL cells slots w lv pc (.int n :: .int 0 :: .ref a :: .int 0 :: .ref a0 :: st) := by
  subst hn
  subst hw2
  intro H locs ls hP hD hS hl T hT X
  have hc0 : H[a0]? = some (vp_cell cA (n0, .inr (.inr (.inr (.inr f))))) := hP q0 _ ha0
  have hc1 : H[a]? = some (vp_cell cA (n1, .inr (.inr (.inr (.inr g))))) := hP q1 _ ha1
  obtain ⟨-, k0, hk0, cm0, hkk0⟩ := (hK.2 t0 _ ht0).1 n0 (fun j => va_rf (f j))
  obtain ⟨comp, c9, k9, e1, e2, e3, e4, e5⟩ := arrayOverA_spec hN.2.2
  have r0 : s.vm.findClass ("[" ++ (FieldType.array .int).toString) = some cA := (hK.2 t0 _ ht0).2
  have r1 : s.vm.findClass ("[" ++ FieldType.int.toString) = some cI := (hK.2 t1 _ ht1).2
  cases e5.symm.trans r0
  have hci : comp = cI := Option.some.inj (e1.symm.trans ((by rfl : (FieldType.array .int).toString = "[" ++ FieldType.int.toString) ▸ r1))
  subst hci
  obtain ⟨kE, hkE, -⟩ := Vm.findClass_spec e1
  cases hk0.symm.trans e3
  cases hkk0.symm.trans e4
  have z0 : (0 : Int32).toNatClampNeg = 0 := by decide
  have zn : (nI n').toNatClampNeg = n' := nI_clamp hb
  have i0 : (0 : Int32).toInt = 0 := by decide
  have iN : (nI n').toInt = (n' : Int) := nI_toInt hb
  obtain ⟨vm', X', step⟩ := X.arraycopy B.1 B.2.2.2.1 (B.2.2.2.2 _ hlink) (B.2.2.2.2 _ hnat) (B.2.2.2.2 _ hstat) (B.2.2.2.2 _ hini) (src := a0) (dst := a) (cs := vp_cell cA (n0, .inr (.inr (.inr (.inr f))))) (cd := vp_cell cA (n1, .inr (.inr (.inr (.inr g))))) (srcPos := 0) (destPos := 0) (n := nI n') (by rw [hT]; exact hc0) (by rw [hT]; exact hc1)
    (fun _ h => by cases h) (fun _ h => by cases h) (fun h => by cases h) (fun h => by cases h) hk0 hk0 hkk0 hkk0 rfl (by decide) (by decide) (nI_pos hb)
    (by rw [i0, iN]; show ¬ _ > ((arrV cA n0 (fun j => va_rf (f j))).slots.size : Int); rw [arrV_size]; omega)
    (by rw [i0, iN]; show ¬ _ > ((arrV cA n1 (fun j => va_rf (g j))).slots.size : Int); rw [arrV_size]; omega)
    (fun vm₁ hal i hi => by
      rw [zn] at hi
      obtain ⟨y, qk, x, hy, hqk⟩ := hel i hi
      have e : (vp_cell cA (n0, .inr (.inr (.inr (.inr f))))).slots.getD ((0 : Int32).toNatClampNeg + i) .null = va_rf (f i) := by
        show (arrV cA n0 (fun j => va_rf (f j))).slots.getD _ _ = _
        rw [z0, Nat.zero_add, Array.getD_eq_getD_getElem?, arrV_read _ _ (by omega)]
        rfl
      rw [e, hy]
      have hcv : H[y]? = some (vp_cell cm0 x) := hP qk _ hqk
      have d1 : (vp_cell cm0 x).cls = cm0 := by
        obtain ⟨n9, x9⟩ := x
        rcases x9 with x9 | x9 | x9 | x9 | x9 <;> rfl
      have d2 : (vp_cell cm0 x).vm = .none := by
        obtain ⟨n9, x9⟩ := x
        rcases x9 with x9 | x9 | x9 | x9 | x9 <;> rfl
      obtain ⟨kE', hkE', -⟩ := hal.2.2 _ _ hkE
      refine ⟨rfl, vp_cell cm0 x, (show T.heap[y]? = some (vp_cell cm0 x) by rw [hT]; exact hcv), (fun q h => by rw [d2] at h; cases h), ⟨kE', by rw [d1]; exact hkE'⟩, ?_, ?_⟩
      · exact ⟨kE', hkE'⟩
      · show vm₁.assignable _ _ = true
        rw [d1]
        exact as_self _ _)
    (g := F0 m pc ls (.int (nI n') :: .int 0 :: .ref a :: .int 0 :: .ref a0 :: st)) rfl (B.2.2.1.trans hl.1.symm).symm (rest := st) rfl (by rw [B.2.1]; exact hdg) hframes (by show 2 * 0 + _ + _ ≤ _; omega)
  have ec : copied (vp_cell cA (n0, .inr (.inr (.inr (.inr f))))) (vp_cell cA (n1, .inr (.inr (.inr (.inr g))))) 0 0 (nI n') = vp_cell cA (n1, .inr (.inr (.inr (.inr (va_cpy f g 0 0 n'))))) := by
    rw [vp_cell_q, vp_cell_q, vp_cell_q]
    show (arrV cA n1 (fun j => va_rf (g j))).storeRun (0 : Int32).toNatClampNeg ((arrV cA n0 (fun j => va_rf (f j))).stretch (0 : Int32).toNatClampNeg (nI n').toNatClampNeg) = _
    rw [z0, zn]
    exact va_copied (fun z => va_rf z) cA cA f g (by omega)
  rw [ec] at X' step
  have hlt : a < H.size := (Array.getElem?_eq_some_iff.mp hc1).1
  have hheap : ((T.setVm vm').setCell a (vp_cell cA (n1, .inr (.inr (.inr (.inr (va_cpy f g 0 0 n'))))))).heap = H.setIfInBounds a (vp_cell cA (n1, .inr (.inr (.inr (.inr (va_cpy f g 0 0 n')))))) := by rw [← hT]; rfl
  have oq : ∀ q : Nat, q ≠ a → (H.setIfInBounds a (vp_cell cA (n1, .inr (.inr (.inr (.inr (va_cpy f g 0 0 n')))))))[q]? = H[q]? := fun q hq => by simp [Array.getElem?_setIfInBounds, Ne.symm hq]
  obtain ⟨t, a1, b1⟩ := kk _ _ ls (hP.set (hD.weaken (fun _ q _ h => hAD _ h)) ha1 (show (H.setIfInBounds a _)[a]? = some _ by simp [Array.getElem?_setIfInBounds, hlt]) oq) (hD.set ha1) ⟨by simp; exact hS.1, fun q g1 g2 => by
      rw [oq q (fun e => g2 (by rw [e]; exact hAD _ (hD.2 q1 _ ha1)))]
      exact hS.2.1 q g1 g2, fun q hq => by
      rcases List.mem_append.mp hq with h | h
      · exact hS.2.2 q h
      · obtain ⟨z, -, hz⟩ := List.mem_map.mp h
        rw [← hz]
        exact hAD _ (hD.2 q1 _ ha1)⟩ hl _ hheap X'
  exact ⟨t, step t a1, b1⟩
/-- the callee gets some of the front's cells and the tail -/
theorem gPw.preT {X T cx : va_W} {av : List Value} (hK : va_K D vwCl tys s) (hN : NWs s) (is : List Nat) (hC : is.map (fun i => X[i]?) = cx.map some) (hn : va_nd is = true) : gPre s D AD A (X ++ T) (fun n => gPw D tys av (cx ++ T) n) av :=
  ⟨fun _ => gPw.blind, fun H U _ hP hD _ hU hW => ⟨rfl, by rw [hU], (hD.part is hn hC).weaken (fun _ _ _ _ => trivial), gB.at (hP.part is hC) hK hN hU hW⟩⟩
theorem gPp.preT {X T cx : va_W} {av : List Value} (hK : va_K D vwCl tys s) (hN : NWs s) (is : List Nat) (hC : is.map (fun i => X[i]?) = cx.map some) (hn : va_nd is = true) : gPre s D AD A (X ++ T) (fun _ => gPp D tys av (cx ++ T)) av :=
  ⟨fun _ => gPp.blind, fun H U _ hP hD _ hU hW => ⟨rfl, (hD.part is hn hC).weaken (fun _ _ _ _ => trivial), gB.at (hP.part is hC) hK hN hU hW⟩⟩
theorem gEX.at {b L : Nat} {xs : Nat → Int32} {Bc : Nat → Prop} {U : State} {H : Heap} {locs : List Loc} (hX : va_X b L xs s s.heap) (hbl : b < s.heap.size) (hbA : ¬ A b) (hS : va_S A s.heap H locs) (hU : U.heap = H) (hW : s.WarmedH U.vm) (hB : ∀ q, Bc q → A q) : gEX b L xs Bc U := by
  subst hU
  exact ⟨(hX.kept (hS.2.1 b hbl hbA)).moved hW.alike, Nat.lt_of_lt_of_le hbl hS.1, fun h => hbA (hB b h)⟩
theorem gPe.pre {wc : va_W} {av : List Value} {b L : Nat} {xs : Nat → Int32} (hX : va_X b L xs s s.heap) (hbl : b < s.heap.size) (hbA : ¬ A b) (hA : ∀ q, s.heap.size ≤ q → A q) (hK : va_K D vwCl tys s) (hN : NWs s) (is : List Nat) (hC : is.map (fun i => w[i]?) = wc.map some) (hn : va_nd is = true) : gPre s D A A w (fun n => gPe D tys av wc b L xs n) av :=
  ⟨fun _ => gPe.blind, fun H U locs hP hD hS hU hW => ⟨rfl, by rw [hU], (hD.sub is hn hC).weaken (fun _ _ _ _ => trivial), gEX.at hX hbl hbA hS hU hW (fun q h => by
    rcases h with ⟨k, ee, h⟩ | h
    · exact (hD.sub is hn hC).2 k _ h
    · exact hA q (Nat.le_trans hS.1 h)), gB.at (gP_sub hP is hC) hK hN hU hW⟩⟩
theorem gPe.preT {X T cx : va_W} {av : List Value} {b L : Nat} {xs : Nat → Int32} (hX : va_X b L xs s s.heap) (hbl : b < s.heap.size) (hbA : ¬ A b) (hA : ∀ q, s.heap.size ≤ q → A q) (hK : va_K D vwCl tys s) (hN : NWs s) (is : List Nat) (hC : is.map (fun i => X[i]?) = cx.map some) (hn : va_nd is = true) : gPre s D A A (X ++ T) (fun n => gPe D tys av (cx ++ T) b L xs n) av :=
  ⟨fun _ => gPe.blind, fun H U locs hP hD hS hU hW => ⟨rfl, by rw [hU], (hD.part is hn hC).weaken (fun _ _ _ _ => trivial), gEX.at hX hbl hbA hS hU hW (fun q h => by
    rcases h with ⟨k, ee, h⟩ | h
    · exact (hD.part is hn hC).2 k _ h
    · exact hA q (Nat.le_trans hS.1 h)), gB.at (hP.part is hC) hK hN hU hW⟩⟩
/-- behind a call that had the tail -/
theorem g_callT {st0 : List Value} {S : Type} {post : S → Prop} {v : S → Option Value} {X T cx wr : va_W} {rx Tx : S → va_W} {mc ms : Nat} {a : Array Value} {w2 : S → va_W} (hr : gRun p l e R s m args below meth c D AD A nL cells slots (X ++ T) lv pc st0 st mc ms (fun n => gQw D post v (fun u => rx u ++ Tx u) (va_A (cx ++ T) n) a) (fun n => va_A (cx ++ T) n))
    (hA : ∀ q, s.heap.size ≤ q → AD q) (hAD : ∀ q, AD q → A q) (isC isR : List Nat) (hC : isC.map (fun i => X[i]?) = cx.map some) (hR : isR.map (fun i => X[i]?) = wr.map some) (hn : va_nd isR = true) (hdis : ∀ i ∈ isR, i ∉ isC) (perm : List Nat) (hpn : va_nd perm = true) (hperm : ∀ u : S, perm.map (fun i => (wr ++ rx u)[i]?) = (w2 u).map some)
    (kk : ∀ u : S, post u → G p l e R s m args below meth c Q D AD A nL (cells + mc) (slots + ms) (w2 u ++ Tx u) lv (pc + 3) ((v u).toList ++ st)) : G p l e R s m args below meth c Q D AD A nL cells slots (X ++ T) lv pc st0 := by
  intro H locs ls hP hD hS hl T0 hT X0
  obtain ⟨vv, st₀, t, T', L, h0, X', hL, e1, e2, ⟨u, hv, hp, hP1, hD1, hz, hk⟩, hgo⟩ := hr H locs ls hP hD hS hl T0 hT X0
  cases hv
  rw [h0] at hz hk
  rw [← e1] at hP1
  have hF : ∀ q, va_A (cx ++ T) H.size q → AD q := fun q h => by
    rcases h with ⟨k, ee, h⟩ | h
    · exact hD.2 _ (q, ee) (va_part isC hC k _ h)
    · exact hA q (Nat.le_trans hS.1 h)
  have hk1 : ∀ q : Nat, q < H.size → ¬ va_A (cx ++ T) H.size q → T'.heap[q]? = H[q]? := fun q h1 h2 => by rw [e1]; exact hk q h1 h2
  obtain ⟨hPj, hDj⟩ := va_joinP hP hD isC isR hC hR hn hdis hk1 hF hP1 hD1
  obtain ⟨t2, a1, b1⟩ := kk u hp T'.heap (locs ++ L) ls (hPj.part perm (hperm u)) (hDj.part perm hpn (hperm u)) ⟨Nat.le_trans hS.1 (by rw [e1]; exact hz), fun q h1 h2 => by rw [hk1 q (Nat.lt_of_lt_of_le h1 hS.1) (fun h => h2 (hAD q (hF q h)))]; exact hS.2.1 q h1 h2, fun q hq => (List.mem_append.mp hq).elim (hS.2.2 q) (fun h => hAD _ (hF _ (hL q h)))⟩ hl T' rfl X'
  exact ⟨t2, hgo t2 a1, b1⟩
/-- behind a call that had only cells of the front: the tail stays -/
theorem g_callU {st0 : List Value} {S : Type} {post : S → Prop} {v : S → Option Value} {w' : S → va_W} {X T cx wr : va_W} {mc ms : Nat} {a : Array Value} {w2 : S → va_W} (hr : gRun p l e R s m args below meth c D AD A nL cells slots (X ++ T) lv pc st0 st mc ms (fun n => gQw D post v w' (va_A cx n) a) (fun n => va_A cx n))
    (hA : ∀ q, s.heap.size ≤ q → AD q) (hAD : ∀ q, AD q → A q) (isC isR : List Nat) (hC : isC.map (fun i => X[i]?) = cx.map some) (hR : isR.map (fun i => X[i]?) = wr.map some) (hn : va_nd isR = true) (hdis : ∀ i ∈ isR, i ∉ isC) (perm : List Nat) (hpn : va_nd perm = true) (hperm : ∀ u : S, perm.map (fun i => (wr ++ w' u)[i]?) = (w2 u).map some)
    (kk : ∀ u : S, post u → G p l e R s m args below meth c Q D AD A nL (cells + mc) (slots + ms) (w2 u ++ T) lv (pc + 3) ((v u).toList ++ st)) : G p l e R s m args below meth c Q D AD A nL cells slots (X ++ T) lv pc st0 := by
  intro H locs ls hP hD hS hl T0 hT X0
  obtain ⟨vv, st₀, t, T', L, h0, X', hL, e1, e2, ⟨u, hv, hp, hP1, hD1, hz, hk⟩, hgo⟩ := hr H locs ls hP hD hS hl T0 hT X0
  cases hv
  rw [h0] at hz hk
  rw [← e1] at hP1
  have hF : ∀ q, va_A cx H.size q → AD q := fun q h => by
    rcases h with ⟨k, ee, h⟩ | h
    · obtain ⟨i, -, h2⟩ := va_in_of isC hC h
      exact hD.2 i (q, ee) (app_getl h2)
    · exact hA q (Nat.le_trans hS.1 h)
  have hk1 : ∀ q : Nat, q < H.size → ¬ va_A cx H.size q → T'.heap[q]? = H[q]? := fun q h1 h2 => by rw [e1]; exact hk q h1 h2
  obtain ⟨hPj, hDj⟩ := va_joinQ hP hD isC isR hC hR hn hdis hk1 hF hP1 hD1
  obtain ⟨t2, a1, b1⟩ := kk u hp T'.heap (locs ++ L) ls (hPj.part perm (hperm u)) (hDj.part perm hpn (hperm u)) ⟨Nat.le_trans hS.1 (by rw [e1]; exact hz), fun q h1 h2 => by rw [hk1 q (Nat.lt_of_lt_of_le h1 hS.1) (fun h => h2 (hAD q (hF q h)))]; exact hS.2.1 q h1 h2, fun q hq => (List.mem_append.mp hq).elim (hS.2.2 q) (fun h => hAD _ (hF _ (hL q h)))⟩ hl T' rfl X'
  exact ⟨t2, hgo t2 a1, b1⟩
/-- a branch on a truth value -/
theorem g_bif_eq (B : CallFix p m c cc nL s args Ts own) {b : Bool} {off : Int} {tgt : Nat} (hdg : decode cc pc = .ok (.ifCond .eq off, 3)) (ht : (pc : Int) + off = (tgt : Int)) (kt : b = false → G p l e R s m args below meth c Q D AD A nL cells slots w lv tgt st) (kf : b = true → G p l e R s m args below meth c Q D AD A nL cells slots w lv (pc + 3) st) : G p l e R s m args below meth c Q D AD A nL cells slots w lv pc (.int (bI b) :: st) :=
  g_if_eq B hdg ht (fun h => kt ((bI_eq0 b).mp h)) (fun h => kf (by cases b with | true => rfl | false => exact absurd rfl h))
theorem g_bif_ne (B : CallFix p m c cc nL s args Ts own) {b : Bool} {off : Int} {tgt : Nat} (hdg : decode cc pc = .ok (.ifCond .ne off, 3)) (ht : (pc : Int) + off = (tgt : Int)) (kt : b = true → G p l e R s m args below meth c Q D AD A nL cells slots w lv tgt st) (kf : b = false → G p l e R s m args below meth c Q D AD A nL cells slots w lv (pc + 3) st) : G p l e R s m args below meth c Q D AD A nL cells slots w lv pc (.int (bI b) :: st) :=
  g_if_ne B hdg ht (fun h => kt (by cases b with | true => rfl | false => exact absurd rfl h)) (fun h => kf ((bI_eq0 b).mp h))
/-- a truth value against 1 -/
theorem g_bcmp_ne (B : CallFix p m c cc nL s args Ts own) {b : Bool} {off : Int} {tgt : Nat} (hdg : decode cc pc = .ok (.if_icmp .ne off, 3)) (ht : (pc : Int) + off = (tgt : Int)) (kt : b = false → G p l e R s m args below meth c Q D AD A nL cells slots w lv tgt st) (kf : b = true → G p l e R s m args below meth c Q D AD A nL cells slots w lv (pc + 3) st) : G p l e R s m args below meth c Q D AD A nL cells slots w lv pc (.int 1 :: .int (bI b) :: st) :=
  g_icmp_ne B hdg ht (fun h => kt (by cases b with | true => exact absurd rfl h | false => rfl)) (fun h => kf (by cases b with | true => rfl | false => exact absurd h (by decide)))
/-- a branch on a comparison of longs -/
theorem g_lif_eq (B : CallFix p m c cc nL s args Ts own) {x y : Int64} {off : Int} {tgt : Nat} (hdg : decode cc pc = .ok (.ifCond .eq off, 3)) (ht : (pc : Int) + off = (tgt : Int)) (kt : x = y → G p l e R s m args below meth c Q D AD A nL cells slots w lv tgt st) (kf : ¬ x = y → G p l e R s m args below meth c Q D AD A nL cells slots w lv (pc + 3) st) : G p l e R s m args below meth c Q D AD A nL cells slots w lv pc (.int (lg_cmp x y) :: st) :=
  g_if_eq B hdg ht (fun h => kt ((lg_eq0 x y).mp h)) (fun h => kf (fun q => h ((lg_eq0 x y).mpr q)))
theorem g_lif_ne (B : CallFix p m c cc nL s args Ts own) {x y : Int64} {off : Int} {tgt : Nat} (hdg : decode cc pc = .ok (.ifCond .ne off, 3)) (ht : (pc : Int) + off = (tgt : Int)) (kt : ¬ x = y → G p l e R s m args below meth c Q D AD A nL cells slots w lv tgt st) (kf : x = y → G p l e R s m args below meth c Q D AD A nL cells slots w lv (pc + 3) st) : G p l e R s m args below meth c Q D AD A nL cells slots w lv pc (.int (lg_cmp x y) :: st) :=
  g_if_ne B hdg ht (fun h => kt (fun q => h ((lg_eq0 x y).mpr q))) (fun h => kf ((lg_eq0 x y).mp h))
end GT2
