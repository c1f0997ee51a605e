/-! words for the rest: changes of the program, the generator, relations, the archive's answers -/
def updB (g : Nat → Bool) (k : Nat) (x : Bool) : Nat → Bool := fun j => if j = k then x else g j
theorem upd_tI (g : Nat → Nat) (k x : Nat) : upd (fun i => ks_tI (g i)) k (ks_tI x) = (fun i => ks_tI (updN g k x i)) := by
  funext j
  by_cases h : j = k <;> simp [upd, updN, h]
theorem nar_bI (b : Bool) : vp_nar .boolean (bI b) = bI b := by cases b <;> decide
theorem upd_bI (g : Nat → Bool) (k : Nat) (x : Bool) : upd (fun i => bI (g i)) k (vp_nar .boolean (bI x)) = (fun i => bI (updB g k x i)) := by
  funext j
  rw [nar_bI]
  by_cases h : j = k <;> simp [upd, updB, h]
def ks_setQ (P : Pg) (n s h b : Nat) : Pg := (updN P.1 n s, updN P.2.1 n h, updN P.2.2.1 n b, P.2.2.2.1, P.2.2.2.2)
def ks_setT (P : Pg) (n y z : Nat) : Pg := (P.1, P.2.1, P.2.2.1, updN (updN P.2.2.2.1 (2 * n) y) (2 * n + 1) z, P.2.2.2.2)
def ks_setB (P : Pg) (n : Nat) (b : Bool) : Pg := (P.1, P.2.1, P.2.2.1, P.2.2.2.1, updB P.2.2.2.2 n b)
theorem updN_same {g : Nat → Nat} {k : Nat} : updN g k (g k) = g := by
  funext j
  by_cases h : j = k
  · subst h; simp [updN]
  · simp [updN, h]
theorem updN_at {g : Nat → Nat} {k x : Nat} : updN g k x k = x := by simp [updN]
theorem updN_ne {g : Nat → Nat} {k x j : Nat} (h : j ≠ k) : updN g k x j = g j := by simp [updN, h]
theorem updN_le {g : Nat → Nat} {k x : Nat} {j M : Nat} (h : g j < M) (hx : x < M) : updN g k x j < M := by unfold updN; split <;> assumption
theorem ks_setQ_W {P : Pg} (hW : ks_WP P) {n s h b : Nat} (h1 : s < 4) (h2 : h < 3) (h3 : b < 10) : ks_WP (ks_setQ P n s h b) :=
  ⟨fun i hi => updN_le (hW.1 i hi) h1, fun i hi => updN_le (hW.2.1 i hi) h2, fun i hi => updN_le (hW.2.2.1 i hi) h3, hW.2.2.2⟩
theorem ks_setT_W {P : Pg} (hW : ks_WP P) {n y z : Nat} (h1 : y ≤ 12) (h2 : z ≤ 12) : ks_WP (ks_setT P n y z) :=
  ⟨hW.1, hW.2.1, hW.2.2.1, fun e he => Nat.le_of_lt_succ (updN_le (updN_le (Nat.lt_succ_of_le (hW.2.2.2 e he)) (Nat.lt_succ_of_le h1)) (Nat.lt_succ_of_le h2))⟩
theorem ks_setB_W {P : Pg} (hW : ks_WP P) {n : Nat} {b : Bool} : ks_WP (ks_setB P n b) := hW
theorem ks_setQ_id {P : Pg} {n : Nat} : ks_setQ P n (P.1 n) (P.2.1 n) (P.2.2.1 n) = P := by
  unfold ks_setQ
  rw [updN_same, updN_same, updN_same]
theorem ks_setT_id {P : Pg} {n : Nat} : ks_setT P n (P.2.2.2.1 (2 * n)) (P.2.2.2.1 (2 * n + 1)) = P := by
  unfold ks_setT
  rw [updN_same]
  rw [updN_same]
/-- a slot's new value -/
theorem ks_wvI {t s v : Nat} : nI t + (nI v - nI (ks_dg t s)) * nI (ks_pw s) = nI (ks_wv t s v) := by
  have h := ks_dg_le (t := t) s
  unfold ks_wv
  generalize ks_dg t s = d at h
  generalize ks_pw s = p at h
  obtain ⟨r, rfl⟩ : ∃ r, t = r + d * p := ⟨t - d * p, by omega⟩
  rw [Nat.add_sub_cancel, ← nI_add, ← nI_add, ← pk_mul, ← pk_mul]
  generalize nI r = a
  generalize nI d = b
  generalize nI p = c
  generalize nI v = e
  apply Int32.toBitVec_inj.mp
  simp only [Int32.toBitVec_add, Int32.toBitVec_mul, Int32.toBitVec_sub]
  generalize a.toBitVec = a
  generalize b.toBitVec = b
  generalize c.toBitVec = c
  generalize e.toBitVec = e
  have h1 : e * c = (e - b) * c + b * c := by
    rw [BitVec.mul_comm (e - b) c, BitVec.mul_comm b c, ← BitVec.mul_add, BitVec.sub_add_cancel, BitVec.mul_comm]
  rw [h1, BitVec.add_assoc, BitVec.add_comm (b * c)]
/-- the generator -/
abbrev Wg : Type := (Nat → Nat) × (Nat → Nat) × (Nat → Nat)
def ks_WW (W : Wg) : Prop := ∀ i, i < 4 → W.1 i < 10 ∧ W.2.1 i < 10 ∧ W.2.2 i < 10
def ks_ws (W : Wg) (s : Nat) : Nat := W.1 s + W.2.1 s + W.2.2 s
def ks_dr (d : Nat) : Nat := (d * 421 + 1663) % 10000
theorem ks_dr_lt (d : Nat) : ks_dr d < 10000 := Nat.mod_lt _ (by decide)
def ks_nv (W : Wg) (d s : Nat) : Nat × Nat :=
  if ks_ws W s = 0 then (0, d)
  else if ks_dr d / 100 % ks_ws W s < W.1 s then (ks_dr (ks_dr d) / 100 % 3, ks_dr (ks_dr d))
  else if ks_dr d / 100 % ks_ws W s < W.1 s + W.2.1 s then (3 + ks_dr (ks_dr d) / 100 % 4, ks_dr (ks_dr d))
  else (7 + ks_dr (ks_dr d) / 100 % 3, ks_dr (ks_dr d))
theorem ks_nv_lt {W : Wg} {d s : Nat} (hd : d < 10000) : (ks_nv W d s).1 < 10 ∧ (ks_nv W d s).2 < 10000 := by
  have h := ks_dr_lt (ks_dr d)
  unfold ks_nv
  split
  · exact ⟨by show 0 < 10; omega, hd⟩
  · split
    · exact ⟨by show _ % 3 < 10; omega, h⟩
    · split
      · exact ⟨by show 3 + _ % 4 < 10; omega, h⟩
      · exact ⟨by show 7 + _ % 3 < 10; omega, h⟩
def ks_nk (W : Wg) (d : Nat) : Nat → Nat × Nat
  | 0 => (0, d)
  | k + 1 => ((ks_nk W d k).1 * 10 + (ks_nv W (ks_nk W d k).2 k).1, (ks_nv W (ks_nk W d k).2 k).2)
theorem ks_nk_2 {W : Wg} {d : Nat} (hd : d < 10000) : ∀ k, (ks_nk W d k).2 < 10000
  | 0 => hd
  | k + 1 => (ks_nv_lt (ks_nk_2 hd k)).2
theorem ks_nk_lt {W : Wg} {d : Nat} (hd : d < 10000) : (ks_nk W d 1).1 < 10 ∧ (ks_nk W d 2).1 < 100 ∧ (ks_nk W d 3).1 < 1000 ∧ (ks_nk W d 4).1 < 10000 := by
  have h0 : (ks_nk W d 0).1 = 0 := rfl
  have e : ∀ k, (ks_nk W d (k + 1)).1 = (ks_nk W d k).1 * 10 + (ks_nv W (ks_nk W d k).2 k).1 := fun k => rfl
  have b : ∀ k, (ks_nv W (ks_nk W d k).2 k).1 < 10 := fun k => (ks_nv_lt (ks_nk_2 hd k)).1
  have b0 := b 0
  have b1 := b 1
  have b2 := b 2
  have b3 := b 3
  have e0 := e 0
  have e1 := e 1
  have e2 := e 2
  have e3 := e 3
  simp only [Nat.zero_add, Nat.reduceAdd] at e0 e1 e2 e3
  omega
def ks_nc (W : Wg) (d : Nat) : Nat × Nat := ks_nk W d 4
theorem ks_nc_lt {W : Wg} {d : Nat} (hd : d < 10000) : (ks_nc W d).1 < 10000 ∧ (ks_nc W d).2 < 10000 := ⟨(ks_nk_lt hd).2.2.2, ks_nk_2 hd 4⟩
def ks_mt (d t : Nat) : Nat := ks_wv t (ks_dr d / 100 % 4) ((ks_dg t (ks_dr d / 100 % 4) + 1 + ks_dr (ks_dr d) / 100 % 9) % 10)
/-- relations -/
abbrev Rg : Type := (Nat → Nat) × (Nat → Nat) × (Nat → Nat)
def ks_RR (Q : Rg) (r : Nat) : Prop := ∀ i, i < r → Q.1 i < 2 ∧ Q.2.1 i < 4 ∧ Q.2.2 i < 4
def ks_cg (Q : Rg) (r t : Nat) : Nat := if Q.1 r = 1 then ks_wv t (Q.2.1 r) (if 9 < ks_dg t (Q.2.1 r) + 1 then 9 else ks_dg t (Q.2.1 r) + 1) else ks_wv (ks_wv t (Q.2.1 r) (ks_dg t (Q.2.2 r))) (Q.2.2 r) (ks_dg t (Q.2.1 r))
theorem ks_cg_lt {Q : Rg} {r t : Nat} (ht : t < 10000) : ks_cg Q r t < 10000 := by
  unfold ks_cg
  split
  · exact ks_wv_lt ht (by split <;> omega)
  · exact ks_wv_lt (ks_wv_lt ht (ks_dg_lt _ _)) (ks_dg_lt _ _)
def ks_setR (Q : Rg) (n a b c : Nat) : Rg := (updN Q.1 n a, updN Q.2.1 n b, updN Q.2.2 n c)
theorem ks_setR_R {Q : Rg} {n a b c : Nat} (h : ks_RR Q n) (h1 : a < 2) (h2 : b < 4) (h3 : c < 4) : ks_RR (ks_setR Q n a b c) (n + 1) := fun i hi => by
  by_cases e : i = n
  · subst e
    show updN Q.1 i a i < 2 ∧ updN Q.2.1 i b i < 4 ∧ updN Q.2.2 i c i < 4
    rw [updN_at, updN_at, updN_at]
    exact ⟨h1, h2, h3⟩
  · show updN Q.1 n a i < 2 ∧ updN Q.2.1 n b i < 4 ∧ updN Q.2.2 n c i < 4
    rw [updN_ne e, updN_ne e, updN_ne e]
    exact h i (by omega)
/-- outcomes by number -/
def ks_oc (r : Nat) : Nat := if r < 100 then r else r - 100 + 24
/-- the nodes that can be reached -/
def ks_rE (P : Pg) (s : Int64) : Nat → Int64
  | 0 => s
  | e + 1 => if hasB (ks_rE P s e) (e / 2) && decide (P.2.2.2.1 e < 12) then ks_rE P s e ||| lShl 1 (nI (P.2.2.2.1 e)) else ks_rE P s e
def ks_rR (P : Pg) : Nat → Int64
  | 0 => 1
  | r + 1 => ks_rE P (ks_rR P r) 24
/-- numbers of cases -/
def ks_no (t : Nat → Nat) (n c : Nat) : Nat := fa_first (fun i => decide (t i = c)) n
def ks_oI (n m : Nat) : Int32 := if m < n then nI m else -1
theorem ks_no_at {t : Nat → Nat} {n c k : Nat} (hk : k < n) (h1 : ∀ j, j < k → t j ≠ c) (h2 : t k = c) : ks_no t n c = k := by
  have hle := fa_first_le (fun i => decide (t i = c)) n
  have h3 : ¬ ks_no t n c < k := fun h => by
    have := fa_first_yes (fun i => decide (t i = c)) n (by show ks_no t n c < n; omega)
    exact h1 _ h (of_decide_eq_true this)
  have h4 : ¬ k < ks_no t n c := fun h => by
    have := fa_first_no (fun i => decide (t i = c)) n k h
    rw [decide_eq_true h2] at this
    cases this
  omega
theorem ks_no_none {t : Nat → Nat} {n c : Nat} (h1 : ∀ j, j < n → t j ≠ c) : ks_no t n c = n := by
  have hle : ks_no t n c ≤ n := fa_first_le (fun i => decide (t i = c)) n
  have h3 : ¬ ks_no t n c < n := fun h => by
    have := fa_first_yes (fun i => decide (t i = c)) n h
    exact h1 _ h (of_decide_eq_true this)
  omega
theorem ks_no_out {t : Nat → Nat} {n c : Nat} (h : ¬ ks_no t n c < n) : ∀ j, j < n → t j ≠ c := fun j hj e => by
  have hle : ks_no t n c ≤ n := fa_first_le (fun i => decide (t i = c)) n
  have := fa_first_no (fun i => decide (t i = c)) n j (by show j < ks_no t n c; omega)
  rw [decide_eq_true e] at this
  cases this
theorem ks_no_in {t : Nat → Nat} {n c : Nat} (h : ks_no t n c < n) : t (ks_no t n c) = c := of_decide_eq_true (fa_first_yes (fun i => decide (t i = c)) n h)
/-- energies -/
def ks_en (F : Nat → Int64) (S : Int64) (mu : Nat → Nat) (k : Nat) : Nat := if hasB S k then 1 + 3 * ks_ed (ks_al F k S) + (if lShr (ks_al F k S) 24 = 0 then 0 else 5) - mu k else 0
def ks_we (F : Nat → Int64) (S : Int64) (mu : Nat → Nat) : Nat → Nat
  | 0 => 0
  | k + 1 => ks_we F S mu k + ks_en F S mu k
theorem ks_en_le (F : Nat → Int64) (S : Int64) (mu : Nat → Nat) (k : Nat) : ks_en F S mu k ≤ 78 := by
  have := ks_ed_le (ks_al F k S)
  unfold ks_en
  split
  · split <;> omega
  · omega
theorem ks_we_le (F : Nat → Int64) (S : Int64) (mu : Nat → Nat) : ∀ k, ks_we F S mu k ≤ 78 * k
  | 0 => Nat.le_refl 0
  | k + 1 => by
    have h1 := ks_we_le F S mu k
    have h2 := ks_en_le F S mu k
    show ks_we F S mu k + ks_en F S mu k ≤ _
    omega
theorem ks_max0 {a b : Nat} (ha : a < 2 ^ 30) (hb : b < 2 ^ 30) : (if (0 : Int32) < nI a - nI b then nI a - nI b else 0) = nI (a - b) := by
  have h := pk_sub_toInt ha hb
  split
  · rename_i h1
    rw [Int32.lt_iff_toInt_lt, h] at h1
    have h0 : (0 : Int32).toInt = 0 := rfl
    exact pk_sub (by omega)
  · rename_i h1
    rw [Int32.lt_iff_toInt_lt, h] at h1
    have h0 : (0 : Int32).toInt = 0 := rfl
    rw [show a - b = 0 by omega]
    rfl
/-- the best so far: its number and its energy, each one more (0: none) -/
def ks_be (F : Nat → Int64) (S : Int64) (mu : Nat → Nat) : Nat → Nat × Nat
  | 0 => (0, 0)
  | k + 1 => if hasB S k && decide ((ks_be F S mu k).2 < ks_en F S mu k + 1) then (k + 1, ks_en F S mu k + 1) else ks_be F S mu k
theorem ks_be_le (F : Nat → Int64) (S : Int64) (mu : Nat → Nat) : ∀ k, (ks_be F S mu k).1 ≤ k ∧ (ks_be F S mu k).2 ≤ 79
  | 0 => ⟨Nat.le_refl 0, Nat.zero_le _⟩
  | k + 1 => by
    have h := ks_be_le F S mu k
    have h2 := ks_en_le F S mu k
    unfold ks_be
    split
    · exact ⟨Nat.le_refl _, by show ks_en F S mu k + 1 ≤ 79; omega⟩
    · exact ⟨by omega, h.2⟩
/-- who covers an edge -/
def ks_cv (F : Nat → Int64) (e : Nat) : Nat → Int64
  | 0 => 0
  | k + 1 => if hasB (F k) e then ks_cv F e k ||| lShl 1 (nI k) else ks_cv F e k
/-- the hidden rows of the archive agree with the known cases -/
def ks_AO (P : Pg) (t : Nat → Nat) (n : Nat) (f0 f1 : Nat → Int32) (f3 : Nat → Int64) : Prop := ∀ i, i < n → f0 i = nI (t i) ∧ t i < 10000 ∧ f1 i = nI (ks_rs P (t i)) ∧ f3 i = ks_fd P (t i)
def ks_F (P : Pg) (t : Nat → Nat) : Nat → Int64 := fun i => ks_fd P (t i)
