/-! the law's own bench: its rows, what it finds alone -/
def ks_nr (P : Pg) (i j : Nat) : Int32 := if j = 0 then nI (P.1 i) else if j = 1 then nI (P.2.1 i) else if j = 2 then nI (P.2.2.1 i) else if j = 3 then ks_tI (P.2.2.2.1 (2 * i)) else if j = 4 then ks_tI (P.2.2.2.1 (2 * i + 1)) else if j = 5 then bI (P.2.2.2.2 i) else 0
def ks_wr (W : Wg) (i j : Nat) : Int32 := if j = 0 then nI (W.1 i) else if j = 1 then nI (W.2.1 i) else if j = 2 then nI (W.2.2 i) else 0
def ks_rr (Q : Rg) (i j : Nat) : Int32 := if j = 0 then nI (Q.1 i) else if j = 1 then nI (Q.2.1 i) else if j = 2 then nI (Q.2.2 i) else 0
def ks_kn (t : Nat → Nat) (S : Int64) (mu : Nat → Nat) (i j : Nat) : Int32 := if j = 0 then nI (t i) else if j = 1 then bI (hasB S i) else if j = 2 then nI (mu i) else 0
theorem nr_ask {P : Pg} {n a b c : Nat} : ∀ i, i < 12 → tl_up (tl_up (tl_up (ks_nr P) n (upd (ks_nr P n) 0 (nI a))) n (upd (tl_up (ks_nr P) n (upd (ks_nr P n) 0 (nI a)) n) 1 (nI b))) n (upd (tl_up (tl_up (ks_nr P) n (upd (ks_nr P n) 0 (nI a))) n (upd (tl_up (ks_nr P) n (upd (ks_nr P n) 0 (nI a)) n) 1 (nI b)) n) 2 (nI c)) i = ks_nr (ks_setQ P n a b c) i := by
  intro i _
  funext j
  by_cases h : i = n
  · subst h
    by_cases h0 : j = 0
    · subst h0; simp [tl_up, upd, ks_nr, ks_setQ, updN]
    · by_cases h1 : j = 1
      · subst h1; simp [tl_up, upd, ks_nr, ks_setQ, updN]
      · by_cases h2 : j = 2
        · subst h2; simp [tl_up, upd, ks_nr, ks_setQ, updN]
        · simp [tl_up, upd, ks_nr, ks_setQ, h0, h1, h2]
  · simp [tl_up, ks_nr, ks_setQ, updN, h]
theorem nr_lead {P : Pg} {n y z : Nat} : ∀ i, i < 12 → tl_up (tl_up (ks_nr P) n (upd (ks_nr P n) 3 (ks_tI y))) n (upd (tl_up (ks_nr P) n (upd (ks_nr P n) 3 (ks_tI y)) n) 4 (ks_tI z)) i = ks_nr (ks_setT P n y z) i := by
  intro i _
  funext j
  by_cases h : i = n
  · subst h
    by_cases h3 : j = 3
    · subst h3; simp [tl_up, upd, ks_nr, ks_setT, updN]
    · by_cases h4 : j = 4
      · subst h4; simp [tl_up, upd, ks_nr, ks_setT, updN]
      · simp [tl_up, upd, ks_nr, ks_setT, h3, h4]
  · have e1 : ¬ 2 * i = 2 * n := by omega
    have e2 : ¬ 2 * i = 2 * n + 1 := by omega
    have e3 : ¬ 2 * i + 1 = 2 * n := by omega
    have e4 : ¬ 2 * i + 1 = 2 * n + 1 := by omega
    simp [tl_up, ks_nr, ks_setT, updN, h, e1, e2, e3, e4]
theorem nr_bad {P : Pg} {n r : Nat} (hr : r < 2) : ∀ i, i < 12 → tl_up (ks_nr P) n (upd (ks_nr P n) 5 (nI r)) i = ks_nr (ks_setB P n (decide (r = 1))) i := by
  intro i _
  funext j
  by_cases h : i = n
  · subst h
    by_cases h5 : j = 5
    · subst h5
      have hr2 : r = 0 ∨ r = 1 := by omega
      rcases hr2 with rfl | rfl
      · simp [tl_up, upd, ks_nr, ks_setB, updB]; rfl
      · simp [tl_up, upd, ks_nr, ks_setB, updB]; rfl
    · simp [tl_up, upd, ks_nr, ks_setB, h5]
  · simp [tl_up, ks_nr, ks_setB, updB, h]
/-- a known case's row: kept or not -/
theorem kn_set {t mu : Nat → Nat} {S T : Int64} {k n : Nat} {v : Int32} (hT : ∀ i, i < n → hasB T i = if i = k then decide (v = 1) else hasB S i) (hv : v = 0 ∨ v = 1) : ∀ i, i < n → tl_up (ks_kn t S mu) k (upd (ks_kn t S mu k) 1 v) i = ks_kn t T mu i := by
  intro i hi
  funext j
  have h1 := hT i hi
  by_cases h : i = k
  · subst h
    rw [if_pos rfl] at h1
    by_cases hj : j = 1
    · subst hj
      rcases hv with rfl | rfl
      · simp [tl_up, upd, ks_kn, h1]; rfl
      · simp [tl_up, upd, ks_kn, h1]; rfl
    · simp [tl_up, upd, ks_kn, hj]
  · rw [if_neg h] at h1
    simp [tl_up, ks_kn, h, h1]
theorem kn_mu {t mu : Nat → Nat} {S : Int64} {k n x : Nat} : ∀ i, i < n → tl_up (ks_kn t S mu) k (upd (ks_kn t S mu k) 2 (nI x)) i = ks_kn t S (updN mu k x) i := by
  intro i hi
  funext j
  by_cases h : i = k
  · subst h
    by_cases hj : j = 2
    · subst hj; simp [tl_up, upd, ks_kn, updN]
    · simp [tl_up, upd, ks_kn, hj]
  · simp [tl_up, ks_kn, updN, h]
/-- one more known case -/
theorem kn_push {t mu : Nat → Nat} {S : Int64} {n c : Nat} (hn : n ≤ 40) (hS : ∀ i, n ≤ i → i < 64 → hasB S i = false) (hmu : mu n = 0) : ∀ i, i < n + 1 → tl_up (ks_kn t S mu) n (upd (upd (upd (fun _ => (0 : Int32)) 0 (nI c)) 1 (1 : Int32)) 2 (0 : Int32)) i = ks_kn (updN t n c) (S ||| lShl 1 (nI n)) mu i := by
  intro i hi
  funext j
  by_cases h : i = n
  · subst h
    have hb : hasB (S ||| lShl 1 (nI i)) i = true := by rw [hb_pl (by omega) (by omega), decide_eq_true rfl, Bool.or_true]
    by_cases h0 : j = 0
    · subst h0; simp [tl_up, upd, ks_kn, updN]
    · by_cases h1 : j = 1
      · subst h1; simp [tl_up, upd, ks_kn, hb]; rfl
      · by_cases h2 : j = 2
        · subst h2; simp [tl_up, upd, ks_kn, hmu]; rfl
        · simp [tl_up, upd, ks_kn, h0, h1, h2]
  · have hb : hasB (S ||| lShl 1 (nI n)) i = hasB S i := by rw [hb_pl (by omega) (by omega), decide_eq_false (by omega), Bool.or_false]
    simp [tl_up, ks_kn, updN, h, hb]
def ks_bk (P : Pg) (t : Nat → Nat) (S : Int64) (c : Nat) : Nat → Nat → Bool
  | 0 => fun b => hasB (ks_fd P c) b
  | k + 1 => if hasB S k && !decide (t k = c) then fun b => ks_bk P t S c k b && !hasB (ks_fd P (t k)) b else ks_bk P t S c k
theorem bk_bit {P : Pg} {t : Nat → Nat} {S : Int64} {c b : Nat} : ∀ n, ks_bk P t S c n b = true ↔ hasB (ks_fd P c) b = true ∧ ∀ j, j < n → hasB S j = true → t j ≠ c → hasB (ks_fd P (t j)) b = false
  | 0 => ⟨fun h => ⟨h, fun j hj => absurd hj (Nat.not_lt_zero j)⟩, fun h => h.1⟩
  | n + 1 => by
    have ih := bk_bit (P := P) (t := t) (S := S) (c := c) (b := b) n
    by_cases h : (hasB S n && !decide (t n = c)) = true
    · have e : ks_bk P t S c (n + 1) b = (ks_bk P t S c n b && !hasB (ks_fd P (t n)) b) := by
        show (if hasB S n && !decide (t n = c) then fun b => ks_bk P t S c n b && !hasB (ks_fd P (t n)) b else ks_bk P t S c n) b = _
        rw [if_pos h]
      rw [Bool.and_eq_true, Bool.not_eq_true', decide_eq_false_iff_not] at h
      rw [e, Bool.and_eq_true, ih, Bool.not_eq_true']
      constructor
      · rintro ⟨⟨h1, h2⟩, h3⟩
        refine ⟨h1, fun j hj hS ht => ?_⟩
        by_cases hjn : j = n
        · subst hjn; exact h3
        · exact h2 j (by omega) hS ht
      · rintro ⟨h1, h2⟩
        exact ⟨⟨h1, fun j hj => h2 j (by omega)⟩, h2 n (by omega) h.1 h.2⟩
    · have e : ks_bk P t S c (n + 1) b = ks_bk P t S c n b := by
        show (if hasB S n && !decide (t n = c) then fun b => ks_bk P t S c n b && !hasB (ks_fd P (t n)) b else ks_bk P t S c n) b = _
        rw [if_neg h]
      rw [e, ih]
      constructor
      · rintro ⟨h1, h2⟩
        refine ⟨h1, fun j hj hS ht => ?_⟩
        by_cases hjn : j = n
        · subst hjn
          exact absurd (by rw [hS, decide_eq_false ht]; rfl) h
        · exact h2 j (by omega) hS ht
      · rintro ⟨h1, h2⟩
        exact ⟨h1, fun j hj => h2 j (by omega)⟩
def ks_av (P : Pg) (t : Nat → Nat) (n : Nat) (S : Int64) (c : Nat) : Nat := fb_ct (ks_bk P t S c n) 24
def ks_of (P : Pg) (t : Nat → Nat) (n : Nat) (S : Int64) (c : Nat) : Bool := decide (100 ≤ ks_rs P c) && decide (n ≤ fa_first (fun j => hasB S j && !decide (t j = c) && decide (ks_rs P (t j) = ks_rs P c)) n)
/-- the case c stands at the place i with its finds, all others of S below n are others -/
def ks_At (P : Pg) (t : Nat → Nat) (n : Nat) (F : Nat → Int64) (c i : Nat) : Prop := F i = ks_fd P c ∧ (∀ j, j < n → j ≠ i → t j ≠ c ∧ F j = ks_fd P (t j)) ∧ (i < n → t i = c)
theorem at_bit {P : Pg} {t : Nat → Nat} {n : Nat} {F : Nat → Int64} {S : Int64} {c i b : Nat} (h : ks_At P t n F c i) (hn : n ≤ 40) (hi : i ≤ n) (hS : ks_SK n S) (hb : b < 64) : ks_bk P t S c n b = hasB (ks_al F i S) b := by
  have key : ks_bk P t S c n b = true ↔ hasB (ks_al F i S) b = true := by
    rw [bk_bit, ks_al_bit (by omega) hb, h.1]
    constructor
    · rintro ⟨h1, h2⟩
      refine ⟨h1, fun j hj hji hSj => ?_⟩
      by_cases hjn : j < n
      · have h3 := h.2.1 j hjn hji
        rw [h3.2]
        exact h2 j hjn hSj h3.1
      · rw [hS j (by omega) (by omega)] at hSj
        cases hSj
    · rintro ⟨h1, h2⟩
      refine ⟨h1, fun j hj hSj ht => ?_⟩
      by_cases hji : j = i
      · subst hji
        exact absurd (h.2.2 hj) ht
      · rw [← (h.2.1 j hj hji).2]
        exact h2 j (by omega) hji hSj
  cases h1 : ks_bk P t S c n b with
  | true => rw [key.mp h1]
  | false =>
    cases h2 : hasB (ks_al F i S) b with
    | false => rfl
    | true => rw [key.mpr h2] at h1; cases h1
theorem at_av {P : Pg} {t : Nat → Nat} {n : Nat} {F : Nat → Int64} {S : Int64} {c i : Nat} (h : ks_At P t n F c i) (hn : n ≤ 40) (hi : i ≤ n) (hS : ks_SK n S) : ks_av P t n S c = ks_ed (ks_al F i S) := by
  rw [ks_ed_eq]
  exact fb_ct_cong fun b hb => at_bit h hn hi hS (by omega)
theorem hb_shrB {x : Int64} {k b : Nat} (hk : k < 64) (hb : k + b < 64) : hasB (lShr x (nI k)) b = hasB x (k + b) := by
  obtain ⟨n, hn, rfl⟩ := wb_of x
  have h1 : lShr (lN n) (nI k) = lN (n / 2 ^ k) := wb_shr hn hk
  rw [h1, hb_bit (by omega), hb_bit hb, wb_tb, wb_tb, BitVec.getLsbD_ofNat, BitVec.getLsbD_ofNat, Nat.testBit_div_two_pow]
  rw [decide_eq_true (show b < 64 by omega), decide_eq_true hb, Nat.add_comm b k]
theorem hb_hi24 {x : Int64} : lShr x 24 = 0 ↔ ∀ f, f < 40 → hasB x (24 + f) = false := by
  constructor
  · intro h f hf
    exact hb_shr (k := 24) (by decide) h (by omega) (by omega)
  · intro h
    have h0 : (24 : Int32) = nI 24 := rfl
    rw [h0, hb_eq0]
    intro k hk
    by_cases hk2 : k < 40
    · rw [hb_shrB (by decide) (by omega)]
      exact h k hk2
    · obtain ⟨n, hn, rfl⟩ := wb_of x
      have h1 : lShr (lN n) (nI 24) = lN (n / 2 ^ 24) := wb_shr hn (by decide)
      rw [h1, hb_bit hk, wb_tb, BitVec.getLsbD_ofNat]
      have h2 : n / 2 ^ 24 < 2 ^ k := by
        have h3 : (2 : Nat) ^ 40 ≤ 2 ^ k := Nat.pow_le_pow_right (by decide) (by omega)
        have h4 : n / 2 ^ 24 < 2 ^ 40 := by
          apply Nat.div_lt_of_lt_mul
          have : (2 : Nat) ^ 24 * 2 ^ 40 = 2 ^ 64 := by decide
          omega
        omega
      rw [Nat.testBit_lt_two_pow h2]
      simp
theorem at_of {P : Pg} {t : Nat → Nat} {n : Nat} {F : Nat → Int64} {S : Int64} {c i : Nat} (h : ks_At P t n F c i) (hn : n ≤ 40) (hi : i ≤ n) (hS : ks_SK n S) (hW : ks_WP P) : ks_of P t n S c = !decide (lShr (ks_al F i S) 24 = 0) := by
  have hrs := ks_rs_lt (t := c) hW
  have key : ks_of P t n S c = true ↔ ¬ lShr (ks_al F i S) 24 = 0 := by
    rw [hb_hi24]
    unfold ks_of
    rw [Bool.and_eq_true, decide_eq_true_eq, decide_eq_true_eq]
    constructor
    · rintro ⟨h1, h2⟩ h3
      have h4 := h3 (ks_rs P c - 100) (by omega)
      have h5 : ¬ hasB (ks_al F i S) (24 + (ks_rs P c - 100)) = true := by rw [h4]; decide
      apply h5
      rw [ks_al_bit (by omega) (by omega), h.1]
      refine ⟨(ks_fd_fail (by omega)).mpr (by omega), fun j hj hji hSj => ?_⟩
      by_cases hjn : j < n
      · have h6 := h.2.1 j hjn hji
        rw [h6.2]
        cases hc : hasB (ks_fd P (t j)) (24 + (ks_rs P c - 100)) with
        | false => rfl
        | true =>
          have h7 := (ks_fd_fail (by omega)).mp hc
          have h8 := fa_first_no (fun j => hasB S j && !decide (t j = c) && decide (ks_rs P (t j) = ks_rs P c)) n j (by omega)
          have h9 : (hasB S j && !decide (t j = c) && decide (ks_rs P (t j) = ks_rs P c)) = true := by rw [hSj, decide_eq_false h6.1, decide_eq_true (show ks_rs P (t j) = ks_rs P c by omega)]; rfl
          rw [h9] at h8
          cases h8
      · rw [hS j (by omega) (by omega)] at hSj
        cases hSj
    · intro h3
      obtain ⟨f, hf, h4⟩ : ∃ f, f < 40 ∧ hasB (ks_al F i S) (24 + f) = true := by
        apply Classical.byContradiction
        intro hx
        apply h3
        intro f hf
        cases hc : hasB (ks_al F i S) (24 + f) with
        | false => rfl
        | true => exact absurd ⟨f, hf, hc⟩ hx
      obtain ⟨h5, h6⟩ := (ks_al_bit (by omega) (by omega)).mp h4
      rw [h.1] at h5
      have h7 := (ks_fd_fail hf).mp h5
      refine ⟨by omega, ?_⟩
      rw [ks_first_none (n := n)]
      · exact Nat.le_refl n
      · intro j hj
        cases hc : (hasB S j && !decide (t j = c) && decide (ks_rs P (t j) = ks_rs P c)) with
        | false => rfl
        | true =>
          rw [Bool.and_eq_true, Bool.and_eq_true, Bool.not_eq_true', decide_eq_false_iff_not, decide_eq_true_eq] at hc
          have hji : j ≠ i := fun e => by subst e; exact hc.1.2 (h.2.2 hj)
          have h8 := h6 j (by omega) hji hc.1.1
          rw [(h.2.1 j hj hji).2, (ks_fd_fail hf).mpr (by rw [hc.2]; exact h7)] at h8
          cases h8
  cases h1 : ks_of P t n S c with
  | true => rw [decide_eq_false (key.mp h1)]; rfl
  | false =>
    have : lShr (ks_al F i S) 24 = 0 := Classical.byContradiction fun z => by rw [key.mpr z] at h1; cases h1
    rw [decide_eq_true this]; rfl
/-- needed, as the bench tells it -/
def ks_ne (P : Pg) (t : Nat → Nat) (n : Nat) (S : Int64) (c : Nat) : Bool := decide (0 < ks_av P t n S c) || ks_of P t n S c
theorem at_ne {P : Pg} {t : Nat → Nat} {n : Nat} {F : Nat → Int64} {S : Int64} {c i : Nat} (h : ks_At P t n F c i) (hn : n ≤ 40) (hi : i ≤ n) (hS : ks_SK n S) (hW : ks_WP P) : ks_ne P t n S c = !decide (ks_al F i S = 0) := by
  unfold ks_ne
  rw [at_av h hn hi hS, at_of h hn hi hS hW]
  by_cases h0 : ks_al F i S = 0
  · rw [h0]
    decide
  · rw [decide_eq_false h0]
    by_cases h1 : lShr (ks_al F i S) 24 = 0
    · have h2 : 0 < ks_ed (ks_al F i S) := by
        rw [ks_ed_eq, fb_ct_pos]
        obtain ⟨b, hb, hc⟩ := hb_ne0 h0
        by_cases hb2 : b < 24
        · exact ⟨b, hb2, hc⟩
        · have := hb_hi24.mp h1 (b - 24) (by omega)
          rw [show 24 + (b - 24) = b by omega, hc] at this
          cases this
      rw [decide_eq_true h2]
      rfl
    · rw [decide_eq_false h1, Bool.not_false, Bool.or_true]
/-- known cases are apart -/
def ks_AP (t : Nat → Nat) (n : Nat) : Prop := ∀ i j, i < n → j < n → t i = t j → i = j
theorem at_known {P : Pg} {t : Nat → Nat} {n i : Nat} (hap : ks_AP t n) (hi : i < n) : ks_At P t n (ks_F P t) (t i) i := ⟨rfl, fun j hj hji => ⟨fun e => hji (hap j i hj hi e), rfl⟩, fun _ => rfl⟩
theorem at_new {P : Pg} {t : Nat → Nat} {n c : Nat} (h : ∀ j, j < n → t j ≠ c) : ks_At P t n (ks_F P (updN t n c)) c n := by
  refine ⟨?_, fun j hj _ => ⟨h j hj, ?_⟩, fun hz => absurd hz (Nat.lt_irrefl n)⟩
  · show ks_fd P (updN t n c n) = _
    rw [updN_at]
  · show ks_fd P (updN t n c j) = _
    rw [updN_ne (by omega)]
/-- the count of those kept -/
theorem ks_bc_n {S : Int64} {n : Nat} (hn : n ≤ 40) (hS : ks_SK n S) : ks_bc S = fb_ct (fun k => hasB S k) n := by
  unfold ks_bc
  have h := fb_ct_split (fun k => hasB S k) n (64 - n)
  rw [show n + (64 - n) = 64 by omega] at h
  rw [h, fb_ct_zero.mpr (fun k hk => hS (n + k) (by omega) (by omega)), Nat.add_zero]
theorem tI_ge {k : Nat} : 0 ≤ ks_tI k ↔ k < 12 := by
  by_cases h : k < 12
  · rw [ks_tI_lt h]
    exact ⟨fun _ => h, fun _ => nI_pos' (by omega)⟩
  · rw [ks_tI_ge h]
    exact ⟨fun z => absurd z (by decide), fun z => absurd z h⟩
theorem oI_lt {n m : Nat} (hn : n ≤ 40) : ks_oI n m < 0 ↔ ¬ m < n := by
  unfold ks_oI
  by_cases h : m < n
  · rw [if_pos h]
    exact ⟨fun z => absurd z (nI_pos (by omega)), fun z => absurd h z⟩
  · rw [if_neg h]
    exact ⟨fun _ => h, fun _ => by decide⟩
