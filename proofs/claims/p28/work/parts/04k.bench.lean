/-! the law's own bench: its rows, what it finds alone -/
def ks_nr (P : Pg) (i j : Nat) : Int32 := if j = 0 then nI (P.1 i) else if j = 1 then nI (P.2.1 i) else if j = 2 then nI (P.2.2.1 i) else if j = 3 then ks_tI (P.2.2.2.1 (2 * i)) else if j = 4 then ks_tI (P.2.2.2.1 (2 * i + 1)) else if j = 5 then bI (P.2.2.2.2 i) else 0
def ks_wr (W : Wg) (i j : Nat) : Int32 := if j = 0 then nI (W.1 i) else if j = 1 then nI (W.2.1 i) else if j = 2 then nI (W.2.2 i) else 0
def ks_rr (Q : Rg) (i j : Nat) : Int32 := if j = 0 then nI (Q.1 i) else if j = 1 then nI (Q.2.1 i) else if j = 2 then nI (Q.2.2 i) else 0
def ks_kn (t : Nat → Nat) (S : Int64) (mu : Nat → Nat) (i j : Nat) : Int32 := if j = 0 then nI (t i) else if j = 1 then bI (hasB S i) else if j = 2 then nI (mu i) else 0
theorem nr_ask {P : Pg} {n a b c : Nat} : ∀ i, i < 12 → tl_up (tl_up (tl_up (ks_nr P) n (upd (ks_nr P n) 0 (nI a))) n (upd (tl_up (ks_nr P) n (upd (ks_nr P n) 0 (nI a)) n) 1 (nI b))) n (upd (tl_up (tl_up (ks_nr P) n (upd (ks_nr P n) 0 (nI a))) n (upd (tl_up (ks_nr P) n (upd (ks_nr P n) 0 (nI a)) n) 1 (nI b)) n) 2 (nI c)) i = ks_nr (ks_setQ P n a b c) i := by
  intro i _
  funext j
  by_cases h : i = n
  · subst h
    by_cases h0 : j = 0
    · subst h0; simp [tl_up, upd, ks_nr, ks_setQ, updN]
    · by_cases h1 : j = 1
      · subst h1; simp [tl_up, upd, ks_nr, ks_setQ, updN]
      · by_cases h2 : j = 2
        · subst h2; simp [tl_up, upd, ks_nr, ks_setQ, updN]
        · simp [tl_up, upd, ks_nr, ks_setQ, h0, h1, h2]
  · simp [tl_up, ks_nr, ks_setQ, updN, h]
theorem nr_lead {P : Pg} {n y z : Nat} : ∀ i, i < 12 → tl_up (tl_up (ks_nr P) n (upd (ks_nr P n) 3 (ks_tI y))) n (upd (tl_up (ks_nr P) n (upd (ks_nr P n) 3 (ks_tI y)) n) 4 (ks_tI z)) i = ks_nr (ks_setT P n y z) i := by
  intro i _
  funext j
  by_cases h : i = n
  · subst h
    by_cases h3 : j = 3
    · subst h3; simp [tl_up, upd, ks_nr, ks_setT, updN]
    · by_cases h4 : j = 4
      · subst h4; simp [tl_up, upd, ks_nr, ks_setT, updN]
      · simp [tl_up, upd, ks_nr, ks_setT, h3, h4]
  · have e1 : ¬ 2 * i = 2 * n := by omega
    have e2 : ¬ 2 * i = 2 * n + 1 := by omega
    have e3 : ¬ 2 * i + 1 = 2 * n := by omega
    have e4 : ¬ 2 * i + 1 = 2 * n + 1 := by omega
    simp [tl_up, ks_nr, ks_setT, updN, h, e1, e2, e3, e4]
theorem nr_bad {P : Pg} {n r : Nat} (hr : r < 2) : ∀ i, i < 12 → tl_up (ks_nr P) n (upd (ks_nr P n) 5 (nI r)) i = ks_nr (ks_setB P n (decide (r = 1))) i := by
  intro i _
  funext j
  by_cases h : i = n
  · subst h
    by_cases h5 : j = 5
    · subst h5
      have hr2 : r = 0 ∨ r = 1 := by omega
      rcases hr2 with rfl | rfl
      · simp [tl_up, upd, ks_nr, ks_setB, updB]; rfl
      · simp [tl_up, upd, ks_nr, ks_setB, updB]; rfl
    · simp [tl_up, upd, ks_nr, ks_setB, h5]
  · simp [tl_up, ks_nr, ks_setB, updB, h]
/-- a known case's row: kept or not -/
theorem kn_set {t mu : Nat → Nat} {S T : Int64} {k n : Nat} {v : Int32} (hT : ∀ i, i < n → hasB T i = if i = k then decide (v = 1) else hasB S i) (hv : v = 0 ∨ v = 1) : ∀ i, i < n → tl_up (ks_kn t S mu) k (upd (ks_kn t S mu k) 1 v) i = ks_kn t T mu i := by
  intro i hi
  funext j
  have h1 := hT i hi
  by_cases h : i = k
  · subst h
    rw [if_pos rfl] at h1
    by_cases hj : j = 1
    · subst hj
      rcases hv with rfl | rfl
      · simp [tl_up, upd, ks_kn, h1]; rfl
      · simp [tl_up, upd, ks_kn, h1]; rfl
    · simp [tl_up, upd, ks_kn, hj]
  · rw [if_neg h] at h1
    simp [tl_up, ks_kn, h, h1]
theorem kn_mu {t mu : Nat → Nat} {S : Int64} {k n x : Nat} : ∀ i, i < n → tl_up (ks_kn t S mu) k (upd (ks_kn t S mu k) 2 (nI x)) i = ks_kn t S (updN mu k x) i := by
  intro i hi
  funext j
  by_cases h : i = k
  · subst h
    by_cases hj : j = 2
    · subst hj; simp [tl_up, upd, ks_kn, updN]
    · simp [tl_up, upd, ks_kn, hj]
  · simp [tl_up, ks_kn, updN, h]
/-- one more known case -/
theorem kn_push {t mu : Nat → Nat} {S : Int64} {n c : Nat} (hn : n ≤ 40) (hS : ∀ i, n ≤ i → i < 64 → hasB S i = false) (hmu : mu n = 0) : ∀ i, i < n + 1 → tl_up (ks_kn t S mu) n (upd (upd (upd (fun _ => (0 : Int32)) 0 (nI c)) 1 (1 : Int32)) 2 (0 : Int32)) i = ks_kn (updN t n c) (S ||| lShl 1 (nI n)) mu i := by
  intro i hi
  funext j
  by_cases h : i = n
  · subst h
    have hb : hasB (S ||| lShl 1 (nI i)) i = true := by rw [hb_pl (by omega) (by omega), decide_eq_true rfl, Bool.or_true]
    by_cases h0 : j = 0
    · subst h0; simp [tl_up, upd, ks_kn, updN]
    · by_cases h1 : j = 1
      · subst h1; simp [tl_up, upd, ks_kn, hb]; rfl
      · by_cases h2 : j = 2
        · subst h2; simp [tl_up, upd, ks_kn, hmu]; rfl
        · simp [tl_up, upd, ks_kn, h0, h1, h2]
  · have hb : hasB (S ||| lShl 1 (nI n)) i = hasB S i := by rw [hb_pl (by omega) (by omega), decide_eq_false (by omega), Bool.or_false]
    simp [tl_up, ks_kn, updN, h, hb]
def ks_bk (P : Pg) (t : Nat → Nat) (S : Int64) (c : Nat) : Nat → Nat → Bool
  | 0 => fun b => hasB (ks_fd P c) b
  | k + 1 => if hasB S k && !decide (t k = c) then fun b => ks_bk P t S c k b && !hasB (ks_fd P (t k)) b else ks_bk P t S c k
theorem bk_bit {P : Pg} {t : Nat → Nat} {S : Int64} {c b : Nat} : ∀ n, ks_bk P t S c n b = true ↔ hasB (ks_fd P c) b = true ∧ ∀ j, j < n → hasB S j = true → t j ≠ c → hasB (ks_fd P (t j)) b = false
  | 0 => ⟨fun h => ⟨h, fun j hj => absurd hj (Nat.not_lt_zero j)⟩, fun h => h.1⟩
  | n + 1 => by
    have ih := bk_bit (P := P) (t := t) (S := S) (c := c) (b := b) n
    by_cases h : (hasB S n && !decide (t n = c)) = true
    · have e : ks_bk P t S c (n + 1) b = (ks_bk P t S c n b && !hasB (ks_fd P (t n)) b) := by
        show (if hasB S n && !decide (t n = c) then fun b => ks_bk P t S c n b && !hasB (ks_fd P (t n)) b else ks_bk P t S c n) b = _
        rw [if_pos h]
      rw [Bool.and_eq_true, Bool.not_eq_true', decide_eq_false_iff_not] at h
      rw [e, Bool.and_eq_true, ih, Bool.not_eq_true']
      constructor
      · rintro ⟨⟨h1, h2⟩, h3⟩
        refine ⟨h1, fun j hj hS ht => ?_⟩
        by_cases hjn : j = n
        · subst hjn; exact h3
        · exact h2 j (by omega) hS ht
      · rintro ⟨h1, h2⟩
        exact ⟨⟨h1, fun j hj => h2 j (by omega)⟩, h2 n (by omega) h.1 h.2⟩
    · have e : ks_bk P t S c (n + 1) b = ks_bk P t S c n b := by
        show (if hasB S n && !decide (t n = c) then fun b => ks_bk P t S c n b && !hasB (ks_fd P (t n)) b else ks_bk P t S c n) b = _
        rw [if_neg h]
      rw [e, ih]
      constructor
      · rintro ⟨h1, h2⟩
        refine ⟨h1, fun j hj hS ht => ?_⟩
        by_cases hjn : j = n
        · subst hjn
          exact absurd (by rw [hS, decide_eq_false ht]; rfl) h
        · exact h2 j (by omega) hS ht
      · rintro ⟨h1, h2⟩
        exact ⟨h1, fun j hj => h2 j (by omega)⟩
def ks_av (P : Pg) (t : Nat → Nat) (n : Nat) (S : Int64) (c : Nat) : Nat := fb_ct (ks_bk P t S c n) 24
def ks_of (P : Pg) (t : Nat → Nat) (n : Nat) (S : Int64) (c : Nat) : Bool := decide (100 ≤ ks_rs P c) && decide (n ≤ fa_first (fun j => hasB S j && !decide (t j = c) && decide (ks_rs P (t j) = ks_rs P c)) n)
/-- the case c stands at the place i with its finds, all others of S below n are others -/
def ks_At (P : Pg) (t : Nat → Nat) (n : Nat) (F : Nat → Int64) (c i : Nat) : Prop := F i = ks_fd P c ∧ (∀ j, j < n → j ≠ i → t j ≠ c ∧ F j = ks_fd P (t j)) ∧ (i < n → t i = c)
theorem at_bit {P : Pg} {t : Nat → Nat} {n : Nat} {F : Nat → Int64} {S : Int64} {c i b : Nat} (h : ks_At P t n F c i) (hn : n ≤ 40) (hi : i ≤ n) (hS : ks_SK n S) (hb : b < 64) : ks_bk P t S c n b = hasB (ks_al F i S) b := by
  have key : ks_bk P t S c n b = true ↔ hasB (ks_al F i S) b = true := by
    rw [bk_bit, ks_al_bit (by omega) hb, h.1]
    constructor
    · rintro ⟨h1, h2⟩
      refine ⟨h1, fun j hj hji hSj => ?_⟩
      by_cases hjn : j < n
      · have h3 := h.2.1 j hjn hji
        rw [h3.2]
        exact h2 j hjn hSj h3.1
      · rw [hS j (by omega) (by omega)] at hSj
        cases hSj
    · rintro ⟨h1, h2⟩
      refine ⟨h1, fun j hj hSj ht => ?_⟩
      by_cases hji : j = i
      · subst hji
        exact absurd (h.2.2 hj) ht
      · rw [← (h.2.1 j hj hji).2]
        exact h2 j (by omega) hji hSj
  cases h1 : ks_bk P t S c n b with
  | true => rw [key.mp h1]
  | false =>
    cases h2 : hasB (ks_al F i S) b with
    | false => rfl
    | true => rw [key.mpr h2] at h1; cases h1
theorem at_av {P : Pg} {t : Nat → Nat} {n : Nat} {F : Nat → Int64} {S : Int64} {c i : Nat} (h : ks_At P t n F c i) (hn : n ≤ 40) (hi : i ≤ n) (hS : ks_SK n S) : ks_av P t n S c = ks_ed (ks_al F i S) := by
  rw [ks_ed_eq]
  exact fb_ct_cong fun b hb => at_bit h hn hi hS (by omega)
theorem hb_shrB {x : Int64} {k b : Nat} (hk : k < 64) (hb : k + b < 64) : hasB (lShr x (nI k)) b = hasB x (k + b) := by
  obtain ⟨n, hn, rfl⟩ := wb_of x
  have h1 : lShr (lN n) (nI k) = lN (n / 2 ^ k) := wb_shr hn hk
  rw [h1, hb_bit (by omega), hb_bit hb, wb_tb, wb_tb, BitVec.getLsbD_ofNat, BitVec.getLsbD_ofNat, Nat.testBit_div_two_pow]
  rw [decide_eq_true (show b < 64 by omega), decide_eq_true hb, Nat.add_comm b k]
theorem hb_hi24 {x : Int64} : lShr x 24 = 0 ↔ ∀ f, f < 40 → hasB x (24 + f) = false := by
  constructor
  · intro h f hf
    exact hb_shr (k := 24) (by decide) h (by omega) (by omega)
  · intro h
    have h0 : (24 : Int32) = nI 24 := rfl
    rw [h0, hb_eq0]
    intro k hk
    by_cases hk2 : k < 40
    · rw [hb_shrB (by decide) (by omega)]
      exact h k hk2
    · obtain ⟨n, hn, rfl⟩ := wb_of x
      have h1 : lShr (lN n) (nI 24) = lN (n / 2 ^ 24) := wb_shr hn (by decide)
      rw [h1, hb_bit hk, wb_tb, BitVec.getLsbD_ofNat]
      have h2 : n / 2 ^ 24 < 2 ^ k := by
        have h3 : (2 : Nat) ^ 40 ≤ 2 ^ k := Nat.pow_le_pow_right (by decide) (by omega)
        have h4 : n / 2 ^ 24 < 2 ^ 40 := by
          apply Nat.div_lt_of_lt_mul
          have : (2 : Nat) ^ 24 * 2 ^ 40 = 2 ^ 64 := by decide
          omega
        omega
      rw [Nat.testBit_lt_two_pow h2]
      simp
theorem at_of {P : Pg} {t : Nat → Nat} {n : Nat} {F : Nat → Int64} {S : Int64} {c i : Nat} (h : ks_At P t n F c i) (hn : n ≤ 40) (hi : i ≤ n) (hS : ks_SK n S) (hW : ks_WP P) : ks_of P t n S c = !decide (lShr (ks_al F i S) 24 = 0) := by
  have hrs := ks_rs_lt (t := c) hW
  have key : ks_of P t n S c = true ↔ ¬ lShr (ks_al F i S) 24 = 0 := by
    rw [hb_hi24]
    unfold ks_of
    rw [Bool.and_eq_true, decide_eq_true_eq, decide_eq_true_eq]
    constructor
    · rintro ⟨h1, h2⟩ h3
      have h4 := h3 (ks_rs P c - 100) (by omega)
      have h5 : ¬ hasB (ks_al F i S) (24 + (ks_rs P c - 100)) = true := by rw [h4]; decide
      apply h5
      rw [ks_al_bit (by omega) (by omega), h.1]
      refine ⟨(ks_fd_fail (by omega)).mpr (by omega), fun j hj hji hSj => ?_⟩
      by_cases hjn : j < n
      · have h6 := h.2.1 j hjn hji
        rw [h6.2]
        cases hc : hasB (ks_fd P (t j)) (24 + (ks_rs P c - 100)) with
        | false => rfl
        | true =>
          have h7 := (ks_fd_fail (by omega)).mp hc
          have h8 := fa_first_no (fun j => hasB S j && !decide (t j = c) && decide (ks_rs P (t j) = ks_rs P c)) n j (by omega)
          have h9 : (hasB S j && !decide (t j = c) && decide (ks_rs P (t j) = ks_rs P c)) = true := by rw [hSj, decide_eq_false h6.1, decide_eq_true (show ks_rs P (t j) = ks_rs P c by omega)]; rfl
          rw [h9] at h8
          cases h8
      · rw [hS j (by omega) (by omega)] at hSj
        cases hSj
    · intro h3
      obtain ⟨f, hf, h4⟩ : ∃ f, f < 40 ∧ hasB (ks_al F i S) (24 + f) = true := by
        apply Classical.byContradiction
        intro hx
        apply h3
        intro f hf
        cases hc : hasB (ks_al F i S) (24 + f) with
        | false => rfl
        | true => exact absurd ⟨f, hf, hc⟩ hx
      obtain ⟨h5, h6⟩ := (ks_al_bit (by omega) (by omega)).mp h4
      rw [h.1] at h5
      have h7 := (ks_fd_fail hf).mp h5
      refine ⟨by omega, ?_⟩
      rw [ks_first_none (n := n)]
      · exact Nat.le_refl n
      · intro j hj
        cases hc : (hasB S j && !decide (t j = c) && decide (ks_rs P (t j) = ks_rs P c)) with
        | false => rfl
        | true =>
          rw [Bool.and_eq_true, Bool.and_eq_true, Bool.not_eq_true', decide_eq_false_iff_not, decide_eq_true_eq] at hc
          have hji : j ≠ i := fun e => by subst e; exact hc.1.2 (h.2.2 hj)
          have h8 := h6 j (by omega) hji hc.1.1
          rw [(h.2.1 j hj hji).2, (ks_fd_fail hf).mpr (by rw [hc.2]; exact h7)] at h8
          cases h8
  cases h1 : ks_of P t n S c with
  | true => rw [decide_eq_false (key.mp h1)]; rfl
  | false =>
    have : lShr (ks_al F i S) 24 = 0 := Classical.byContradiction fun z => by rw [key.mpr z] at h1; cases h1
    rw [decide_eq_true this]; rfl
/-- needed, as the bench tells it -/
def ks_ne (P : Pg) (t : Nat → Nat) (n : Nat) (S : Int64) (c : Nat) : Bool := decide (0 < ks_av P t n S c) || ks_of P t n S c
theorem at_ne {P : Pg} {t : Nat → Nat} {n : Nat} {F : Nat → Int64} {S : Int64} {c i : Nat} (h : ks_At P t n F c i) (hn : n ≤ 40) (hi : i ≤ n) (hS : ks_SK n S) (hW : ks_WP P) : ks_ne P t n S c = !decide (ks_al F i S = 0) := by
  unfold ks_ne
  rw [at_av h hn hi hS, at_of h hn hi hS hW]
  by_cases h0 : ks_al F i S = 0
  · rw [h0]
    decide
  · rw [decide_eq_false h0]
    by_cases h1 : lShr (ks_al F i S) 24 = 0
    · have h2 : 0 < ks_ed (ks_al F i S) := by
        rw [ks_ed_eq, fb_ct_pos]
        obtain ⟨b, hb, hc⟩ := hb_ne0 h0
        by_cases hb2 : b < 24
        · exact ⟨b, hb2, hc⟩
        · have := hb_hi24.mp h1 (b - 24) (by omega)
          rw [show 24 + (b - 24) = b by omega, hc] at this
          cases this
      rw [decide_eq_true h2]
      rfl
    · rw [decide_eq_false h1, Bool.not_false, Bool.or_true]
/-- known cases are apart -/
def ks_AP (t : Nat → Nat) (n : Nat) : Prop := ∀ i j, i < n → j < n → t i = t j → i = j
theorem at_known {P : Pg} {t : Nat → Nat} {n i : Nat} (hap : ks_AP t n) (hi : i < n) : ks_At P t n (ks_F P t) (t i) i := ⟨rfl, fun j hj hji => ⟨fun e => hji (hap j i hj hi e), rfl⟩, fun _ => rfl⟩
theorem at_new {P : Pg} {t : Nat → Nat} {n c : Nat} (h : ∀ j, j < n → t j ≠ c) : ks_At P t n (ks_F P (updN t n c)) c n := by
  refine ⟨?_, fun j hj _ => ⟨h j hj, ?_⟩, fun hz => absurd hz (Nat.lt_irrefl n)⟩
  · show ks_fd P (updN t n c n) = _
    rw [updN_at]
  · show ks_fd P (updN t n c j) = _
    rw [updN_ne (by omega)]
/-- the count of those kept -/
theorem ks_bc_n {S : Int64} {n : Nat} (hn : n ≤ 40) (hS : ks_SK n S) : ks_bc S = fb_ct (fun k => hasB S k) n := by
  unfold ks_bc
  have h := fb_ct_split (fun k => hasB S k) n (64 - n)
  rw [show n + (64 - n) = 64 by omega] at h
  rw [h, fb_ct_zero.mpr (fun k hk => hS (n + k) (by omega) (by omega)), Nat.add_zero]
theorem tI_ge {k : Nat} : 0 ≤ ks_tI k ↔ k < 12 := by
  by_cases h : k < 12
  · rw [ks_tI_lt h]
    exact ⟨fun _ => h, fun _ => nI_pos' (by omega)⟩
  · rw [ks_tI_ge h]
    exact ⟨fun z => absurd z (by decide), fun z => absurd z h⟩
theorem oI_lt {n m : Nat} (hn : n ≤ 40) : ks_oI n m < 0 ↔ ¬ m < n := by
  unfold ks_oI
  by_cases h : m < n
  · rw [if_pos h]
    exact ⟨fun z => absurd z (nI_pos (by omega)), fun z => absurd h z⟩
  · rw [if_neg h]
    exact ⟨fun _ => h, fun _ => by decide⟩
theorem sl_eq {ca : Nat} (h : ca < 10000) : ∀ i, i < 4 → upd (upd (upd (upd (fun _ => (0 : Int32)) 0 (nI (ca / 1000))) 1 (nI (ca / 100 % 10))) 2 (nI (ca / 10 % 10))) 3 (nI (ca % 10)) i = nI (ks_dg ca i) := by
  intro i hi
  have hi4 : i = 0 ∨ i = 1 ∨ i = 2 ∨ i = 3 := by omega
  rcases hi4 with rfl | rfl | rfl | rfl
  · show nI (ca / 1000) = nI (ca / 1000 % 10)
    rw [Nat.mod_eq_of_lt (show ca / 1000 < 10 by omega)]
  · rfl
  · rfl
  · rfl
/-- four slots told as a number -/
def ks_tl (g : Nat → Nat) : Nat := 1000 * g 0 + 100 * g 1 + 10 * g 2 + g 3
theorem tl_wv {t s v : Nat} (ht : t < 10000) (hs : s < 4) : ks_tl (updN (ks_dg t) s v) = ks_wv t s v := by
  have hs4 : s = 0 ∨ s = 1 ∨ s = 2 ∨ s = 3 := by omega
  have e0 : ks_dg t 0 = t / 1000 % 10 := rfl
  have e1 : ks_dg t 1 = t / 100 % 10 := rfl
  have e2 : ks_dg t 2 = t / 10 % 10 := rfl
  have e3 : ks_dg t 3 = t % 10 := rfl
  rcases hs4 with rfl | rfl | rfl | rfl
  · show 1000 * v + 100 * ks_dg t 1 + 10 * ks_dg t 2 + ks_dg t 3 = t - ks_dg t 0 * 1000 + v * 1000
    omega
  · show 1000 * ks_dg t 0 + 100 * v + 10 * ks_dg t 2 + ks_dg t 3 = t - ks_dg t 1 * 100 + v * 100
    omega
  · show 1000 * ks_dg t 0 + 100 * ks_dg t 1 + 10 * v + ks_dg t 3 = t - ks_dg t 2 * 10 + v * 10
    omega
  · show 1000 * ks_dg t 0 + 100 * ks_dg t 1 + 10 * ks_dg t 2 + v = t - ks_dg t 3 * 1 + v * 1
    omega
theorem cov_step {P : Pg} {ca k : Nat} {cv : Nat → Bool} (h : ∀ b, cv b = true ↔ ∃ j, j < k ∧ ks_ek P ca j = b) : ∀ b, updB cv (ks_ek P ca k) true b = true ↔ ∃ j, j < k + 1 ∧ ks_ek P ca j = b := fun b => by
  unfold updB
  by_cases hb : b = ks_ek P ca k
  · rw [if_pos hb]
    exact ⟨fun _ => ⟨k, by omega, hb.symm⟩, fun _ => rfl⟩
  · rw [if_neg hb, h b]
    constructor
    · rintro ⟨j, h1, h2⟩; exact ⟨j, by omega, h2⟩
    · rintro ⟨j, h1, h2⟩
      by_cases hjk : j = k
      · subst hjk; exact absurd h2.symm hb
      · exact ⟨j, by omega, h2⟩
theorem cov_end {P : Pg} {ca : Nat} {cv : Nat → Bool} (h : ∀ b, cv b = true ↔ ∃ j, j < ks_st P ca ∧ ks_ek P ca j = b) : ∀ b, b < 24 → cv b = hasB (ks_fd P ca) b := fun b hb => by
  have h1 := (h b).trans (ks_fd_edge hb).symm
  cases hc : cv b with
  | true => rw [h1.mp hc]
  | false =>
    cases hd : hasB (ks_fd P ca) b with
    | false => rfl
    | true => rw [h1.mpr hd] at hc; cases hc
theorem nS_keep {F : Nat → Int64} {S : Int64} {k : Nat} (h : hasB (ks_nS F S k) k = false ∨ ¬ ks_al F k (ks_nS F S k) = 0) : ks_nS F S (k + 1) = ks_nS F S k := by
  show (if hasB (ks_nS F S k) k && decide (ks_al F k (ks_nS F S k) = 0) then _ else _) = _
  rcases h with h | h
  · rw [h]; rfl
  · rw [decide_eq_false h, Bool.and_false]; rfl
theorem nS_drop {F : Nat → Int64} {S : Int64} {k n : Nat} (hk : k < 41) (hn : n ≤ 41) (h1 : hasB (ks_nS F S k) k = true) (h2 : ks_al F k (ks_nS F S k) = 0) : ∀ i, i < n → hasB (ks_nS F S (k + 1)) i = if i = k then decide ((0 : Int32) = 1) else hasB (ks_nS F S k) i := fun i hi => by
  rw [ks_nS_bit hk (by omega), decide_eq_true h2, Bool.and_true]
  by_cases e : i = k
  · subst e
    rw [if_pos rfl, decide_eq_true rfl, Bool.not_true, Bool.and_false]
    rfl
  · rw [if_neg e, decide_eq_false (fun z => e z.symm), Bool.not_false, Bool.and_true]
theorem nS_SK {F : Nat → Int64} {S : Int64} {n : Nat} (hS : ks_SK n S) : ∀ k, k ≤ 41 → ks_SK n (ks_nS F S k) := fun k hk i h1 h2 => by
  cases hc : hasB (ks_nS F S k) i with
  | false => rfl
  | true =>
    have := ks_nS_le h2 k hk hc
    rw [hS i h1 h2] at this
    cases this
theorem nS_stop {F : Nat → Int64} {S : Int64} {n : Nat} (hS : ks_SK n S) : ∀ d, n + d ≤ 41 → ks_nS F S (n + d) = ks_nS F S n
  | 0, _ => rfl
  | d + 1, hd => by
    show ks_nS F S (n + d + 1) = _
    rw [nS_keep (Or.inl (nS_SK hS (n + d) (by omega) (n + d) (by omega) (by omega)))]
    exact nS_stop hS d (by omega)
theorem nS_41 {F : Nat → Int64} {S : Int64} {n : Nat} (hn : n ≤ 41) (hS : ks_SK n S) : ks_nS F S 41 = ks_nS F S n := by
  have := nS_stop (F := F) hS (41 - n) (by omega)
  rwa [show n + (41 - n) = 41 by omega] at this
theorem sS_keep {F : Nat → Int64} {S : Int64} {k : Nat} (h : hasB (ks_sS F S k) k = true ∨ ks_al F k (ks_sS F S k) = 0) : ks_sS F S (k + 1) = ks_sS F S k := by
  show (if !hasB (ks_sS F S k) k && !decide (ks_al F k (ks_sS F S k) = 0) then _ else _) = _
  rcases h with h | h
  · rw [h]; rfl
  · rw [decide_eq_true h, Bool.not_true, Bool.and_false]; rfl
theorem sS_take {F : Nat → Int64} {S : Int64} {k n : Nat} (hk : k < 41) (hn : n ≤ 41) (h1 : hasB (ks_sS F S k) k = false) (h2 : ¬ ks_al F k (ks_sS F S k) = 0) : ∀ i, i < n → hasB (ks_sS F S (k + 1)) i = if i = k then decide ((1 : Int32) = 1) else hasB (ks_sS F S k) i := fun i hi => by
  rw [ks_sS_bit hk (by omega), decide_eq_false h2, Bool.not_false, Bool.and_true]
  by_cases e : i = k
  · subst e
    rw [if_pos rfl, decide_eq_true rfl, Bool.or_true]
    rfl
  · rw [if_neg e, decide_eq_false (fun z => e z.symm), Bool.or_false]
theorem sS_SK {F : Nat → Int64} {S : Int64} {n : Nat} (hn : n ≤ 41) (hS : ks_SK n S) : ∀ k, k ≤ n → ks_SK n (ks_sS F S k) := fun k hk i h1 h2 => by
  rw [ks_sS_hi h2 k (by omega) (by omega)]
  exact hS i h1 h2
theorem ta_ne {F : Nat → Int64} {n : Nat} {S : Int64} (hn : n ≤ 40) (hS : ks_SK n S) (h : ks_al F n S ≠ 0) : ks_ta F n S ≠ S := by
  have e : ks_ta F n S = ks_nS F (S ||| lShl 1 (nI n)) 41 := by unfold ks_ta; rw [if_neg h]
  intro hc
  obtain ⟨b, hb, h1, h2⟩ := (ks_al_need (by omega)).mp h
  have hcov : ks_Cov F (ks_ta F n S) b := by
    rw [e, ks_nS_cov hb 41 (Nat.le_refl _)]
    exact ⟨n, by omega, by rw [hb_pl (by omega) (by omega), decide_eq_true rfl, Bool.or_true], h1⟩
  rw [hc] at hcov
  obtain ⟨j, h3, h4, h5⟩ := hcov
  by_cases hjn : j = n
  · subst hjn
    rw [hS j (Nat.le_refl j) (by omega)] at h4
    cases h4
  · rw [h2 j h3 hjn h4] at h5
    cases h5
theorem SK_push {n : Nat} {S : Int64} (hn : n ≤ 40) (hS : ks_SK n S) : ks_SK (n + 1) (S ||| lShl 1 (nI n)) := fun i h1 h2 => by rw [hb_pl (by omega) h2, hS i (by omega) h2, decide_eq_false (by omega)]; rfl
theorem AP_push {t : Nat → Nat} {n c : Nat} (h : ks_AP t n) (hc : ∀ j, j < n → t j ≠ c) : ks_AP (updN t n c) (n + 1) := fun i j hi hj e => by
  by_cases h1 : i = n
  · by_cases h2 : j = n
    · omega
    · subst h1
      rw [updN_at, updN_ne h2] at e
      exact absurd e.symm (hc j (by omega))
  · by_cases h2 : j = n
    · subst h2
      rw [updN_at, updN_ne h1] at e
      exact absurd e (hc i (by omega))
    · rw [updN_ne h1, updN_ne h2] at e
      exact h i j (by omega) (by omega) e
theorem kn_same {t mu : Nat → Nat} {S : Int64} {n m c : Nat} (hm : m ≤ n) : ∀ i, i < m → ks_kn t S mu i = ks_kn (updN t n c) S mu i := fun i hi => by
  funext j
  unfold ks_kn
  rw [updN_ne (show i ≠ n by omega)]
/-- tasted: the answer, the state -/
theorem S2_known {P : Pg} {t : Nat → Nat} {n ca : Nat} {S : Int64} (h : ks_no t n ca < n) : ks_S2 P t n ca S = S ∧ ks_n2 P t n ca S = n := by
  have e : ks_S2 P t n ca S = S := if_pos h
  exact ⟨e, by unfold ks_n2 ks_tn; rw [e, if_pos rfl]⟩
theorem S2_no {P : Pg} {t : Nat → Nat} {n ca : Nat} {S : Int64} (h : ¬ ks_no t n ca < n) (hz : ks_al (ks_F P (updN t n ca)) n S = 0) : ks_S2 P t n ca S = S ∧ ks_n2 P t n ca S = n := by
  have e : ks_S2 P t n ca S = S := by unfold ks_S2; rw [if_neg h, ks_ta_no hz]
  exact ⟨e, by unfold ks_n2 ks_tn; rw [e, if_pos rfl]⟩
theorem S2_yes {P : Pg} {t : Nat → Nat} {n ca : Nat} {S : Int64} (hn : n ≤ 40) (hS : ks_SK n S) (h : ¬ ks_no t n ca < n) (hz : ¬ ks_al (ks_F P (updN t n ca)) n S = 0) : ks_S2 P t n ca S = ks_nS (ks_F P (updN t n ca)) (S ||| lShl 1 (nI n)) 41 ∧ ks_n2 P t n ca S = n + 1 := by
  have e0 : ks_S2 P t n ca S = ks_ta (ks_F P (updN t n ca)) n S := if_neg h
  have e : ks_S2 P t n ca S = ks_nS (ks_F P (updN t n ca)) (S ||| lShl 1 (nI n)) 41 := by rw [e0]; unfold ks_ta; rw [if_neg hz]
  refine ⟨e, ?_⟩
  unfold ks_n2 ks_tn
  rw [if_neg (by rw [e0]; exact ta_ne hn hS hz)]
theorem no_upd {t : Nat → Nat} {n m c ca : Nat} (hm : m ≤ n) : ks_no (updN t n c) m ca = ks_no t m ca := by
  have key : ∀ k, k ≤ n → fa_first (fun i => decide (updN t n c i = ca)) k = fa_first (fun i => decide (t i = ca)) k := by
    intro k
    induction k with
    | zero => intro _; rfl
    | succ k ih =>
      intro hk
      unfold fa_first
      rw [ih (by omega)]
      simp only [updN_ne (show k ≠ n by omega)]
  exact key m hm
theorem no_push {t : Nat → Nat} {n ca : Nat} (h : ¬ ks_no t n ca < n) : ks_no (updN t n ca) (n + 1) ca = n :=
  ks_no_at (by omega) (fun j hj e => by rw [updN_ne (by omega)] at e; exact ks_no_out h j hj e) updN_at
theorem dr_comm (sd : Nat) : (421 * sd + 1663) % 10000 = ks_dr sd := by unfold ks_dr; rw [Nat.mul_comm]
theorem tl_nk {W : Wg} {sd : Nat} {gm : Nat → Nat} (h : ∀ j, j < 4 → gm j = (ks_nv W (ks_nk W sd j).2 j).1) : ks_tl gm = (ks_nc W sd).1 := by
  have e : ∀ k, (ks_nk W sd (k + 1)).1 = (ks_nk W sd k).1 * 10 + (ks_nv W (ks_nk W sd k).2 k).1 := fun k => rfl
  have h0 := h 0 (by omega)
  have h1 := h 1 (by omega)
  have h2 := h 2 (by omega)
  have h3 := h 3 (by omega)
  have e0 := e 0
  have e1 := e 1
  have e2 := e 2
  have e3 := e 3
  have z : (ks_nk W sd 0).1 = 0 := rfl
  simp only [Nat.zero_add, Nat.reduceAdd] at e0 e1 e2 e3
  unfold ks_tl ks_nc
  omega
