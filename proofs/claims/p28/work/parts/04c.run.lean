/-! the program: nodes, a case's road, its result and finds -/
abbrev Pg : Type := (Nat → Nat) × (Nat → Nat) × (Nat → Nat) × (Nat → Nat) × (Nat → Bool)
/-- a target: a node, or none (12) -/
def ks_tI (k : Nat) : Int32 := if k < 12 then nI k else -1
theorem ks_tI_lt {k : Nat} (h : k < 12) : ks_tI k = nI k := by unfold ks_tI; rw [if_pos h]
theorem ks_tI_ge {k : Nat} (h : ¬ k < 12) : ks_tI k = -1 := by unfold ks_tI; rw [if_neg h]
def ks_dg (t s : Nat) : Nat := if s = 0 then t / 1000 % 10 else if s = 1 then t / 100 % 10 else if s = 2 then t / 10 % 10 else t % 10
def ks_pw (s : Nat) : Nat := if s = 0 then 1000 else if s = 1 then 100 else if s = 2 then 10 else 1
def ks_wv (t s v : Nat) : Nat := t - ks_dg t s * ks_pw s + v * ks_pw s
theorem ks_dg_lt (t s : Nat) : ks_dg t s < 10 := by unfold ks_dg; split <;> (try split) <;> (try split) <;> omega
theorem ks_dg_le {t : Nat} (s : Nat) : ks_dg t s * ks_pw s ≤ t := by unfold ks_dg ks_pw; split <;> (try split) <;> (try split) <;> omega
theorem ks_wv_lt {t s v : Nat} (ht : t < 10000) (hv : v < 10) : ks_wv t s v < 10000 := by unfold ks_wv ks_dg ks_pw; split <;> (try split) <;> (try split) <;> omega
def ks_so (P : Pg) (n t : Nat) : Bool := if P.2.1 n = 0 then decide (ks_dg t (P.1 n) < P.2.2.1 n) else if P.2.1 n = 1 then decide (ks_dg t (P.1 n) = P.2.2.1 n) else decide (P.2.2.1 n < ks_dg t (P.1 n))
def ks_eg (P : Pg) (t n : Nat) : Nat := if ks_so P n t then 2 * n else 2 * n + 1
def ks_go (P : Pg) (n : Nat) : Bool := decide (n < 12) && !P.2.2.2.2 n
def ks_nd (P : Pg) (t : Nat) : Nat → Nat
  | 0 => 0
  | k + 1 => if ks_go P (ks_nd P t k) then P.2.2.2.1 (ks_eg P t (ks_nd P t k)) else ks_nd P t k
def ks_ek (P : Pg) (t k : Nat) : Nat := ks_eg P t (ks_nd P t k)
def ks_fk (P : Pg) (t : Nat) : Nat → Int64
  | 0 => 0
  | k + 1 => if ks_go P (ks_nd P t k) then ks_fk P t k ||| lShl 1 (nI (ks_ek P t k)) else ks_fk P t k
def ks_sk (P : Pg) (t : Nat) : Nat → Nat
  | 0 => 0
  | k + 1 => if ks_go P (ks_nd P t k) then ks_sk P t k + 1 else ks_sk P t k
def ks_rk (P : Pg) (t : Nat) : Nat → Nat
  | 0 => 0
  | k + 1 => if ks_go P (ks_nd P t k) then ks_ek P t k else ks_rk P t k
/-- what a trace says of its result behind k steps: none at first -/
def ks_rI (k r : Nat) : Int32 := if k = 0 then -1 else nI r
def ks_fl (P : Pg) (n : Nat) : Nat := if P.2.2.2.2 n then n else 12
def ks_rs (P : Pg) (t : Nat) : Nat := if ks_nd P t 30 < 12 then 100 + ks_fl P (ks_nd P t 30) else ks_rk P t 30
def ks_fd (P : Pg) (t : Nat) : Int64 := if ks_nd P t 30 < 12 then ks_fk P t 30 ||| lShl 1 (nI (24 + ks_fl P (ks_nd P t 30))) else ks_fk P t 30
def ks_st (P : Pg) (t : Nat) : Nat := ks_sk P t 30
def ks_WP (P : Pg) : Prop := (∀ i, i < 12 → P.1 i < 4) ∧ (∀ i, i < 12 → P.2.1 i < 3) ∧ (∀ i, i < 12 → P.2.2.1 i < 10) ∧ ∀ e, e < 24 → P.2.2.2.1 e ≤ 12
theorem ks_go_lt {P : Pg} {n : Nat} (h : ks_go P n = true) : n < 12 ∧ P.2.2.2.2 n = false := by
  unfold ks_go at h
  rw [Bool.and_eq_true, decide_eq_true_eq, Bool.not_eq_true'] at h
  exact h
theorem ks_go_of {P : Pg} {n : Nat} (h1 : n < 12) (h2 : P.2.2.2.2 n = false) : ks_go P n = true := by
  unfold ks_go
  rw [h2, decide_eq_true h1]
  rfl
theorem ks_go_no {P : Pg} {n : Nat} (h : ¬ n < 12) : ks_go P n = false := by
  unfold ks_go
  rw [decide_eq_false h]
  rfl
theorem ks_go_bad {P : Pg} {n : Nat} (h : P.2.2.2.2 n = true) : ks_go P n = false := by
  unfold ks_go
  rw [h]
  simp
theorem ks_eg_lt {P : Pg} {t n : Nat} (h : n < 12) : ks_eg P t n < 24 ∧ ks_eg P t n / 2 = n := by unfold ks_eg; split <;> omega
theorem ks_nd_le {P : Pg} (hW : ks_WP P) (t : Nat) : ∀ k, ks_nd P t k ≤ 12
  | 0 => Nat.zero_le _
  | k + 1 => by
    unfold ks_nd
    split
    · rename_i h
      exact hW.2.2.2 _ (ks_eg_lt (ks_go_lt h).1).1
    · exact ks_nd_le hW t k
theorem ks_stay {P : Pg} {t k : Nat} (h : ks_go P (ks_nd P t k) = false) : ∀ j, ks_nd P t (k + j) = ks_nd P t k ∧ ks_fk P t (k + j) = ks_fk P t k ∧ ks_sk P t (k + j) = ks_sk P t k ∧ ks_rk P t (k + j) = ks_rk P t k
  | 0 => ⟨rfl, rfl, rfl, rfl⟩
  | j + 1 => by
    obtain ⟨h1, h2, h3, h4⟩ := ks_stay h j
    have hg : ks_go P (ks_nd P t (k + j)) = false := by rw [h1]; exact h
    refine ⟨?_, ?_, ?_, ?_⟩
    · show (if ks_go P (ks_nd P t (k + j)) = true then P.2.2.2.1 (ks_eg P t (ks_nd P t (k + j))) else ks_nd P t (k + j)) = ks_nd P t k
      rw [hg]
      exact h1
    · show (if ks_go P (ks_nd P t (k + j)) = true then ks_fk P t (k + j) ||| lShl 1 (nI (ks_ek P t (k + j))) else ks_fk P t (k + j)) = ks_fk P t k
      rw [hg]
      exact h2
    · show (if ks_go P (ks_nd P t (k + j)) = true then ks_sk P t (k + j) + 1 else ks_sk P t (k + j)) = ks_sk P t k
      rw [hg]
      exact h3
    · show (if ks_go P (ks_nd P t (k + j)) = true then ks_ek P t (k + j) else ks_rk P t (k + j)) = ks_rk P t k
      rw [hg]
      exact h4
theorem ks_sk_all {P : Pg} {t : Nat} : ∀ {k : Nat}, (∀ j, j < k → ks_go P (ks_nd P t j) = true) → ks_sk P t k = k
  | 0, _ => rfl
  | k + 1, h => by
    unfold ks_sk
    rw [h k (Nat.lt_succ_self k), ks_sk_all (fun j hj => h j (Nat.lt_succ_of_lt hj))]
    rfl
theorem ks_step {P : Pg} {t k : Nat} (h : ks_go P (ks_nd P t k) = true) : ks_nd P t (k + 1) = P.2.2.2.1 (ks_ek P t k) ∧ ks_fk P t (k + 1) = ks_fk P t k ||| lShl 1 (nI (ks_ek P t k)) ∧ ks_rk P t (k + 1) = ks_ek P t k := by
  refine ⟨?_, ?_, ?_⟩
  · show (if ks_go P (ks_nd P t k) then _ else _) = _
    rw [h]; rfl
  · show (if ks_go P (ks_nd P t k) then _ else _) = _
    rw [h]; rfl
  · show (if ks_go P (ks_nd P t k) then _ else _) = _
    rw [h]; rfl
/-- where the road ends -/
theorem ks_end {P : Pg} {t k : Nat} (hk : k ≤ 30) (ha : ∀ j, j < k → ks_go P (ks_nd P t j) = true) (hx : k = 30 ∨ ks_go P (ks_nd P t k) = false) : ks_nd P t 30 = ks_nd P t k ∧ ks_fk P t 30 = ks_fk P t k ∧ ks_st P t = k ∧ ks_rk P t 30 = ks_rk P t k := by
  have h0 := ks_sk_all ha
  rcases hx with rfl | h
  · exact ⟨rfl, rfl, h0, rfl⟩
  · have h1 := ks_stay h (30 - k)
    rw [show k + (30 - k) = 30 by omega] at h1
    exact ⟨h1.1, h1.2.1, h1.2.2.1.trans h0, h1.2.2.2⟩
theorem ks_sk_le {P : Pg} {t : Nat} : ∀ k, ks_sk P t k ≤ k
  | 0 => Nat.le_refl 0
  | k + 1 => by
    have := @ks_sk_le P t k
    unfold ks_sk
    split <;> omega
/-- the road's first steps are all gone -/
theorem ks_sk_go {P : Pg} {t : Nat} : ∀ {k j : Nat}, j < ks_sk P t k → ks_go P (ks_nd P t j) = true
  | 0, _, h => absurd h (Nat.not_lt_zero _)
  | k + 1, j, h => by
    cases hg : ks_go P (ks_nd P t k) with
    | false =>
      have e : ks_sk P t (k + 1) = ks_sk P t k := by
        show (if ks_go P (ks_nd P t k) then _ else _) = _
        rw [hg]; rfl
      rw [e] at h
      exact ks_sk_go h
    | true =>
      by_cases hall : ∀ i, i < k → ks_go P (ks_nd P t i) = true
      · have e := ks_sk_le (P := P) (t := t) (k + 1)
        by_cases hjk : j < k
        · exact hall j hjk
        · rw [show j = k by omega]; exact hg
      · exfalso
        apply hall
        intro i hi
        cases hgi : ks_go P (ks_nd P t i) with
        | true => rfl
        | false =>
          have h1 := (ks_stay hgi (k - i)).1
          rw [show i + (k - i) = k by omega] at h1
          rw [h1, hgi] at hg
          cases hg
theorem ks_st_le (P : Pg) (t : Nat) : ks_st P t ≤ 30 := ks_sk_le 30
theorem ks_ek_lt {P : Pg} {t j : Nat} (h : j < ks_st P t) : ks_ek P t j < 24 ∧ ks_ek P t j / 2 = ks_nd P t j := ks_eg_lt (ks_go_lt (ks_sk_go h)).1
/-- behind the last step the road goes on no further, or it was the thirtieth -/
theorem ks_st_end (P : Pg) (t : Nat) : ks_nd P t 30 = ks_nd P t (ks_st P t) ∧ ks_fk P t 30 = ks_fk P t (ks_st P t) ∧ ks_rk P t 30 = ks_rk P t (ks_st P t) ∧ (ks_st P t = 30 ∨ ks_go P (ks_nd P t (ks_st P t)) = false) := by
  have hall : ∀ j, j < ks_st P t → ks_go P (ks_nd P t j) = true := fun j hj => ks_sk_go hj
  by_cases hx : ks_st P t = 30
  · refine ⟨by rw [hx], by rw [hx], by rw [hx], Or.inl hx⟩
  · have hlt : ks_st P t < 30 := Nat.lt_of_le_of_ne (ks_st_le P t) hx
    have hg : ks_go P (ks_nd P t (ks_st P t)) = false := by
      cases hc : ks_go P (ks_nd P t (ks_st P t)) with
      | false => rfl
      | true =>
        exfalso
        have h1 : ks_sk P t (ks_st P t + 1) = ks_st P t + 1 := ks_sk_all (fun j hj => by
          by_cases e : j = ks_st P t
          · rw [e]; exact hc
          · exact hall j (by omega))
        have h2 : ∀ a b, a ≤ b → ks_sk P t a ≤ ks_sk P t b := by
          intro a b hab
          induction hab with
          | refl => exact Nat.le_refl _
          | step _ ih =>
            refine Nat.le_trans ih ?_
            show _ ≤ (if ks_go P (ks_nd P t _) then _ else _)
            split <;> omega
        have h3 := h2 (ks_st P t + 1) 30 (by omega)
        rw [h1] at h3
        have h4 : ks_sk P t 30 = ks_st P t := rfl
        omega
    obtain ⟨e1, e2, -, e4⟩ := ks_end (Nat.le_of_lt hlt) hall (Or.inr hg)
    exact ⟨e1, e2, e4, Or.inr hg⟩
theorem ks_rs_lt {P : Pg} {t : Nat} (hW : ks_WP P) : ks_rs P t ≤ 112 := by
  unfold ks_rs ks_fl
  split
  · rename_i h
    split <;> omega
  · obtain ⟨e1, -, e3, -⟩ := ks_st_end P t
    rename_i h
    rw [e3]
    have : ks_st P t ≠ 0 := by
      intro h0
      rw [e1, h0] at h
      exact h (by show (0 : Nat) < 12; omega)
    obtain ⟨k, hk⟩ : ∃ k, ks_st P t = k + 1 := ⟨ks_st P t - 1, by omega⟩
    have hg : ks_go P (ks_nd P t k) = true := ks_sk_go (k := 30) (by show k < ks_st P t; omega)
    rw [hk, (ks_step hg).2.2]
    have := (ks_ek_lt (P := P) (t := t) (j := k) (by omega)).1
    omega
/-- the result below 100: the last edge; the road is at its end -/
theorem ks_rs_edge {P : Pg} {t : Nat} (h : ks_rs P t < 100) : ¬ ks_nd P t 30 < 12 ∧ ∃ k, ks_st P t = k + 1 ∧ ks_rs P t = ks_ek P t k := by
  have hn : ¬ ks_nd P t 30 < 12 := by
    intro hn
    unfold ks_rs at h
    rw [if_pos hn] at h
    omega
  refine ⟨hn, ?_⟩
  obtain ⟨e1, -, e3, -⟩ := ks_st_end P t
  have h0 : ks_st P t ≠ 0 := by
    intro h0
    rw [e1, h0] at hn
    exact hn (by show (0 : Nat) < 12; omega)
  obtain ⟨k, hk⟩ : ∃ k, ks_st P t = k + 1 := ⟨ks_st P t - 1, by omega⟩
  refine ⟨k, hk, ?_⟩
  have hg : ks_go P (ks_nd P t k) = true := ks_sk_go (k := 30) (by show k < ks_st P t; omega)
  unfold ks_rs
  rw [if_neg hn, e3, hk, (ks_step hg).2.2]
theorem ks_fk_bit {P : Pg} {t b : Nat} (hb : b < 64) : ∀ k, hasB (ks_fk P t k) b = true ↔ ∃ j, j < k ∧ ks_go P (ks_nd P t j) = true ∧ ks_ek P t j = b
  | 0 => by
    rw [show ks_fk P t 0 = 0 from rfl, hasB_0]
    constructor
    · intro h; cases h
    · rintro ⟨j, hj, -⟩; exact absurd hj (Nat.not_lt_zero _)
  | k + 1 => by
    have ih := ks_fk_bit (P := P) (t := t) hb k
    cases hg : ks_go P (ks_nd P t k) with
    | false =>
      have e : ks_fk P t (k + 1) = ks_fk P t k := by
        show (if ks_go P (ks_nd P t k) then _ else _) = _
        rw [hg]; rfl
      rw [e, ih]
      constructor
      · rintro ⟨j, h1, h2⟩; exact ⟨j, by omega, h2⟩
      · rintro ⟨j, h1, h2, h3⟩
        by_cases hjk : j = k
        · subst hjk; rw [hg] at h2; cases h2
        · exact ⟨j, by omega, h2, h3⟩
    | true =>
      have he : ks_ek P t k < 64 := by
        have := (ks_eg_lt (P := P) (t := t) (ks_go_lt hg).1).1
        show ks_eg P t (ks_nd P t k) < 64
        omega
      rw [(ks_step hg).2.1, hb_or hb, hb_one he hb, Bool.or_eq_true, ih, decide_eq_true_eq]
      constructor
      · rintro (⟨j, h1, h2⟩ | h)
        · exact ⟨j, by omega, h2⟩
        · exact ⟨k, by omega, hg, h⟩
      · rintro ⟨j, h1, h2, h3⟩
        by_cases hjk : j = k
        · subst hjk; exact Or.inr h3
        · exact Or.inl ⟨j, by omega, h2, h3⟩
theorem ks_fl_lt {P : Pg} {n : Nat} (h : n < 12) : ks_fl P n ≤ 12 := by unfold ks_fl; split <;> omega
theorem ks_fd_bit {P : Pg} {t b : Nat} (hb : b < 64) : hasB (ks_fd P t) b = true ↔ (∃ j, j < ks_st P t ∧ ks_ek P t j = b) ∨ (ks_nd P t 30 < 12 ∧ 24 + ks_fl P (ks_nd P t 30) = b) := by
  have e2 := (ks_st_end P t).2.1
  have h1 : hasB (ks_fk P t 30) b = true ↔ ∃ j, j < ks_st P t ∧ ks_ek P t j = b := by
    rw [e2, ks_fk_bit hb]
    constructor
    · rintro ⟨j, a, -, c⟩; exact ⟨j, a, c⟩
    · rintro ⟨j, a, c⟩; exact ⟨j, a, ks_sk_go (k := 30) a, c⟩
  unfold ks_fd
  split
  · rename_i h
    rw [hb_or hb, hb_one (by have := ks_fl_lt (P := P) h; omega) hb, Bool.or_eq_true, h1, decide_eq_true_eq]
    constructor
    · rintro (h2 | h2)
      · exact Or.inl h2
      · exact Or.inr ⟨h, h2⟩
    · rintro (h2 | h2)
      · exact Or.inl h2
      · exact Or.inr h2.2
  · rename_i h
    rw [h1]
    constructor
    · exact Or.inl
    · rintro (h2 | h2)
      · exact h2
      · exact absurd h2.1 h
/-- an edge among the finds is a step's edge -/
theorem ks_fd_edge {P : Pg} {t b : Nat} (hb : b < 24) : hasB (ks_fd P t) b = true ↔ ∃ j, j < ks_st P t ∧ ks_ek P t j = b := by
  rw [ks_fd_bit (by omega)]
  constructor
  · rintro (h | h)
    · exact h
    · omega
  · exact Or.inl
/-- a failure among the finds is the result -/
theorem ks_fd_fail {P : Pg} {t f : Nat} (hf : f < 40) : hasB (ks_fd P t) (24 + f) = true ↔ ks_rs P t = 100 + f := by
  rw [ks_fd_bit (by omega)]
  constructor
  · rintro (⟨j, h1, h2⟩ | ⟨h1, h2⟩)
    · have := (ks_ek_lt h1).1
      omega
    · unfold ks_rs
      rw [if_pos h1]
      omega
  · intro h
    by_cases h1 : ks_nd P t 30 < 12
    · unfold ks_rs at h
      rw [if_pos h1] at h
      exact Or.inr ⟨h1, by omega⟩
    · obtain ⟨e1, -, e3, -⟩ := ks_st_end P t
      have h2 : ks_st P t ≠ 0 := by
        intro h0
        rw [e1, h0] at h1
        exact h1 (by show (0 : Nat) < 12; omega)
      obtain ⟨k, hk⟩ : ∃ k, ks_st P t = k + 1 := ⟨ks_st P t - 1, by omega⟩
      have hg : ks_go P (ks_nd P t k) = true := ks_sk_go (k := 30) (by show k < ks_st P t; omega)
      unfold ks_rs at h
      rw [if_neg h1, e3, hk, (ks_step hg).2.2] at h
      have := (ks_ek_lt (P := P) (t := t) (j := k) (by omega)).1
      omega
theorem ks_fd_hi {P : Pg} {t b : Nat} (h1 : 37 ≤ b) (hb : b < 64) : hasB (ks_fd P t) b = false := by
  cases hc : hasB (ks_fd P t) b with
  | false => rfl
  | true =>
    exfalso
    rcases (ks_fd_bit hb).mp hc with ⟨j, h2, h3⟩ | ⟨h2, h3⟩
    · have := (ks_ek_lt h2).1
      omega
    · have := ks_fl_lt (P := P) h2
      omega
/-- edges alone -/
def ks_ed (x : Int64) : Nat := ks_bc (x &&& 16777215)
theorem hb_mask {b : Nat} (hb : b < 64) : hasB 16777215 b = decide (b < 24) := co64 (P := fun b => hasB 16777215 b = decide (b < 24)) (by decide +kernel) hb
theorem ks_ed_eq (x : Int64) : ks_ed x = fb_ct (fun k => hasB x k) 24 := by
  unfold ks_ed ks_bc
  rw [show (64 : Nat) = 24 + 40 from rfl, fb_ct_split]
  have h1 : fb_ct (fun k => hasB (x &&& 16777215) k) 24 = fb_ct (fun k => hasB x k) 24 := fb_ct_cong fun k hk => by
    show hasB (x &&& 16777215) k = hasB x k
    rw [hb_and (by omega), hb_mask (by omega), decide_eq_true hk, Bool.and_true]
  have h2 : fb_ct (fun k => hasB (x &&& 16777215) (24 + k)) 40 = 0 := fb_ct_zero.mpr fun k hk => by
    show hasB (x &&& 16777215) (24 + k) = false
    rw [hb_and (by omega), hb_mask (by omega), decide_eq_false (by omega), Bool.and_false]
  rw [h1, h2, Nat.add_zero]
theorem ks_ed_le (x : Int64) : ks_ed x ≤ 24 := by rw [ks_ed_eq]; exact fb_ct_le _ _
/-- as many edges as steps at the most, and some where there is a step -/
def ks_im (e : Nat → Nat) : Nat → Nat → Bool
  | 0, _ => false
  | n + 1, b => ks_im e n b || decide (b = e n)
theorem ks_im_iff {e : Nat → Nat} {b : Nat} : ∀ n, ks_im e n b = true ↔ ∃ j, j < n ∧ e j = b
  | 0 => by
    constructor
    · intro h
      exact absurd (show false = true from h) (by decide)
    · rintro ⟨j, hj, -⟩
      exact absurd hj (Nat.not_lt_zero j)
  | n + 1 => by
    show (ks_im e n b || decide (b = e n)) = true ↔ _
    rw [Bool.or_eq_true, ks_im_iff n, decide_eq_true_eq]
    constructor
    · rintro (⟨j, h1, h2⟩ | h)
      · exact ⟨j, by omega, h2⟩
      · exact ⟨n, by omega, h.symm⟩
    · rintro ⟨j, h1, h2⟩
      by_cases hjn : j = n
      · subst hjn; exact Or.inr h2.symm
      · exact Or.inl ⟨j, by omega, h2⟩
theorem ks_ct_img (e : Nat → Nat) (m : Nat) : ∀ n, fb_ct (ks_im e n) m ≤ n
  | 0 => by
    rw [show fb_ct (ks_im e 0) m = 0 from fb_ct_zero.mpr fun k _ => rfl]
    exact Nat.le_refl 0
  | n + 1 => by
    have ih := ks_ct_img e m n
    have h1 : fb_ct (ks_im e (n + 1)) m ≤ fb_ct (fun b => if b = e n then true else ks_im e n b) m := fb_ct_sub fun b _ hb => by
      show (if b = e n then true else ks_im e n b) = true
      by_cases hbe : b = e n
      · rw [if_pos hbe]
      · rw [if_neg hbe]
        have hb2 : (ks_im e n b || decide (b = e n)) = true := hb
        rw [decide_eq_false hbe, Bool.or_false] at hb2
        exact hb2
    by_cases hm : e n < m
    · have h2 := fb_ct_upd (ks_im e n) true hm
      have h3 : (if (true : Bool) = true then 1 else 0) = 1 := rfl
      rw [h3] at h2
      omega
    · have h2 := fb_ct_out (ks_im e n) true (i := e n) (n := m) (by omega)
      omega
theorem ks_ed_st (P : Pg) (t : Nat) : ks_ed (ks_fd P t) ≤ ks_st P t ∧ (0 < ks_st P t ↔ 0 < ks_ed (ks_fd P t)) := by
  rw [ks_ed_eq]
  constructor
  · refine Nat.le_trans (fb_ct_sub fun b hb h => ?_) (ks_ct_img (ks_ek P t) 24 (ks_st P t))
    exact (ks_im_iff _).mpr ((ks_fd_edge hb).mp h)
  · rw [fb_ct_pos]
    constructor
    · intro h
      exact ⟨ks_ek P t 0, (ks_ek_lt h).1, (ks_fd_edge (ks_ek_lt h).1).mpr ⟨0, h, rfl⟩⟩
    · rintro ⟨b, hb, h⟩
      obtain ⟨j, hj, -⟩ := (ks_fd_edge hb).mp h
      omega
