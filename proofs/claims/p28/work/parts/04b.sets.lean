/-! sets of small numbers as longs; how many are in one -/
theorem hb_bit {S : Int64} {k : Nat} (hk : k < 64) : hasB S k = S.toBitVec.getLsbD k := by
  have h := ts_bit (w := S) (s := (nI k).toInt64.toUInt64 &&& Int64.toUInt64 63) hk (by rw [wb_cu k hk]; exact u_tn (by omega))
  unfold hasB lShr
  cases hc : S.toBitVec.getLsbD k with
  | false => exact decide_eq_false (fun z => z (h.mpr hc))
  | true => exact decide_eq_true (fun z => by rw [h.mp z] at hc; cases hc)
theorem hb_or {a b : Int64} {k : Nat} (hk : k < 64) : hasB (a ||| b) k = (hasB a k || hasB b k) := by rw [hb_bit hk, hb_bit hk, hb_bit hk, Int64.toBitVec_or, BitVec.getLsbD_or]
theorem hb_and {a b : Int64} {k : Nat} (hk : k < 64) : hasB (a &&& b) k = (hasB a k && hasB b k) := by rw [hb_bit hk, hb_bit hk, hb_bit hk, Int64.toBitVec_and, BitVec.getLsbD_and]
theorem hb_xor {a b : Int64} {k : Nat} (hk : k < 64) : hasB (a ^^^ b) k = (hasB a k ^^ hasB b k) := by rw [hb_bit hk, hb_bit hk, hb_bit hk, Int64.toBitVec_xor, BitVec.getLsbD_xor]
theorem hb_m1 {k : Nat} (hk : k < 64) : hasB (-1) k = true := co64 (P := fun k => hasB (-1) k = true) (by decide +kernel) hk
theorem hb_not {a : Int64} {k : Nat} (hk : k < 64) : hasB (a ^^^ (-1)) k = !hasB a k := by
  rw [hb_xor hk, hb_m1 hk]
  cases hasB a k <;> rfl
theorem hb_one {j k : Nat} (hj : j < 64) (hk : k < 64) : hasB (lShl 1 (nI j)) k = decide (j = k) :=
  co64 (P := fun k => hasB (lShl 1 (nI j)) k = decide (j = k)) (co64 (P := fun j => (List.range 64).all (fun k => decide (hasB (lShl 1 (nI j)) k = decide (j = k))) = true) (by decide +kernel) hj) hk
theorem hb_ext {a b : Int64} (h : ∀ k, k < 64 → hasB a k = hasB b k) : a = b :=
  wb_inj (BitVec.eq_of_getLsbD_eq fun i hi => by rw [← hb_bit hi, ← hb_bit hi]; exact h i hi)
theorem hb_ne0 {a : Int64} (h : a ≠ 0) : ∃ k, k < 64 ∧ hasB a k = true := by
  apply Classical.byContradiction
  intro hn
  apply h
  apply hb_ext
  intro k hk
  rw [hasB_0]
  cases hc : hasB a k with
  | false => rfl
  | true => exact absurd ⟨k, hk, hc⟩ hn
theorem hb_eq0 {a : Int64} : a = 0 ↔ ∀ k, k < 64 → hasB a k = false := by
  constructor
  · intro h k _; rw [h, hasB_0]
  · intro h; exact hb_ext (fun k hk => by rw [h k hk, hasB_0])
/-- what is shifted away -/
theorem hb_shr {S : Int64} {k : Nat} (hk : k < 64) (h : lShr S (nI k) = 0) {j : Nat} (hj : k ≤ j) (hj2 : j < 64) : hasB S j = false := by
  obtain ⟨n, hn, rfl⟩ := wb_of S
  have h1 : lShr (lN n) (nI k) = lN (n / 2 ^ k) := wb_shr hn hk
  rw [h1] at h
  have h2 : n / 2 ^ k = 0 := by
    have := congrArg (fun z : Int64 => z.toBitVec.toNat) h
    have h9 : (lN (n / 2 ^ k)).toBitVec.toNat = n / 2 ^ k := wb_tn (Nat.lt_of_le_of_lt (Nat.div_le_self _ _) hn)
    exact h9.symm.trans this
  have h3 : n < 2 ^ k := by
    have h0 : 0 < 2 ^ k := Nat.two_pow_pos k
    have := Nat.div_add_mod n (2 ^ k)
    have h4 := Nat.mod_lt n h0
    rw [h2] at this
    omega
  rw [hb_bit hj2, wb_tb, BitVec.getLsbD_ofNat]
  have h5 : n.testBit j = false := Nat.testBit_lt_two_pow (Nat.lt_of_lt_of_le h3 (Nat.pow_le_pow_right (by decide) hj))
  rw [h5]
  simp
/-- how many are in the set -/
def ks_bc (x : Int64) : Nat := fb_ct (fun k => hasB x k) 64
theorem ks_bc_le (x : Int64) : ks_bc x ≤ 64 := fb_ct_le _ _
theorem ks_bc_sub {a b : Int64} (h : ∀ k, k < 64 → hasB a k = true → hasB b k = true) : ks_bc a ≤ ks_bc b := fb_ct_sub h
theorem ks_bc_0 {a : Int64} : ks_bc a = 0 ↔ a = 0 := by
  rw [hb_eq0]
  exact fb_ct_zero
theorem ks_bc_lN {n : Nat} : ks_bc (lN n) = fb_ct (fun k => n.testBit k) 64 :=
  fb_ct_cong fun k hk => by rw [hb_bit hk, wb_tb, BitVec.getLsbD_ofNat]; simp [hk]
/-! Long.bitCount's own road: byte by byte -/
def pp_1 : Nat → Nat | 0 => 0 | k + 1 => 256 * pp_1 k + 85
def pp_2 : Nat → Nat | 0 => 0 | k + 1 => 256 * pp_2 k + 51
def pp_3 : Nat → Nat | 0 => 0 | k + 1 => 256 * pp_3 k + 15
def pp_A (k n : Nat) : Nat := n - (n / 2 &&& pp_1 k)
def pp_B (k y : Nat) : Nat := (y &&& pp_2 k) + (y / 4 &&& pp_2 k)
def pp_C (k z : Nat) : Nat := (z + z / 16) &&& pp_3 k
def pp_8 (r : Nat) : Nat := pp_C 1 (pp_B 1 (pp_A 1 r))
theorem pp_and {a b c d : Nat} (hb : b < 256) (hd : d < 256) : (256 * a + b) &&& (256 * c + d) = 256 * (a &&& c) + (b &&& d) := by
  have hbd : b &&& d < 2 ^ 8 := Nat.and_lt_two_pow _ hd
  apply Nat.eq_of_testBit_eq
  intro i
  rw [Nat.testBit_and, show 256 = 2 ^ 8 from rfl, Nat.testBit_two_pow_mul_add a hb, Nat.testBit_two_pow_mul_add c hd, Nat.testBit_two_pow_mul_add _ hbd]
  by_cases h : i < 8
  · rw [if_pos h, if_pos h, if_pos h, Nat.testBit_and]
  · rw [if_neg h, if_neg h, if_neg h, Nat.testBit_and]
theorem pp_all {n : Nat} {P : Nat → Prop} [DecidablePred P] (h : (List.range n).all (fun i => decide (P i)) = true) {i : Nat} (hi : i < n) : P i := of_decide_eq_true (List.all_eq_true.mp h i (List.mem_range.mpr hi))
theorem pp_A_s (k q r : Nat) (hr : r < 256) : pp_A (k + 1) (256 * q + r) = 256 * pp_A k q + pp_A 1 r := by
  have e1 : (256 * q + r) / 2 = 256 * (q / 2) + (128 * (q % 2) + r / 2) := by omega
  have h2 : (128 * (q % 2) + r / 2) &&& 85 = r / 2 &&& 85 := by
    have hq : q % 2 = 0 ∨ q % 2 = 1 := by omega
    rcases hq with h | h
    · rw [h]; simp
    · rw [h]; exact pp_all (P := fun r => (128 * 1 + r / 2) &&& 85 = r / 2 &&& 85) (by decide +kernel) hr
  unfold pp_A
  rw [e1, show pp_1 (k + 1) = 256 * pp_1 k + 85 from rfl, pp_and (by omega) (by decide), h2, show pp_1 1 = 85 from rfl]
  have h3 : q / 2 &&& pp_1 k ≤ q / 2 := Nat.and_le_left
  have h4 : r / 2 &&& 85 ≤ r / 2 := Nat.and_le_left
  omega
theorem pp_B_s (k q r : Nat) (hr : r < 256) : pp_B (k + 1) (256 * q + r) = 256 * pp_B k q + pp_B 1 r := by
  have e1 : (256 * q + r) / 4 = 256 * (q / 4) + (64 * (q % 4) + r / 4) := by omega
  have h2 : (64 * (q % 4) + r / 4) &&& 51 = r / 4 &&& 51 := by
    have hq : q % 4 = 0 ∨ q % 4 = 1 ∨ q % 4 = 2 ∨ q % 4 = 3 := by omega
    rcases hq with h | h | h | h
    · rw [h]; simp
    · rw [h]; exact pp_all (P := fun r => (64 * 1 + r / 4) &&& 51 = r / 4 &&& 51) (by decide +kernel) hr
    · rw [h]; exact pp_all (P := fun r => (64 * 2 + r / 4) &&& 51 = r / 4 &&& 51) (by decide +kernel) hr
    · rw [h]; exact pp_all (P := fun r => (64 * 3 + r / 4) &&& 51 = r / 4 &&& 51) (by decide +kernel) hr
  unfold pp_B
  rw [e1, show pp_2 (k + 1) = 256 * pp_2 k + 51 from rfl, pp_and hr (by decide), pp_and (by omega) (by decide), h2, show pp_2 1 = 51 from rfl]
  omega
theorem pp_C_s (k q r : Nat) (hr : r < 69) (hq : q % 16 ≤ 4) : pp_C (k + 1) (256 * q + r) = 256 * pp_C k q + pp_C 1 r := by
  have e1 : (256 * q + r) + (256 * q + r) / 16 = 256 * (q + q / 16) + (16 * (q % 16) + (r + r / 16)) := by omega
  have h2 : (16 * (q % 16) + (r + r / 16)) &&& 15 = (r + r / 16) &&& 15 := by
    have hq : q % 16 = 0 ∨ q % 16 = 1 ∨ q % 16 = 2 ∨ q % 16 = 3 ∨ q % 16 = 4 := by omega
    rcases hq with h | h | h | h | h
    · rw [h]; simp
    · rw [h]; exact pp_all (P := fun r => (16 * 1 + (r + r / 16)) &&& 15 = (r + r / 16) &&& 15) (by decide +kernel) hr
    · rw [h]; exact pp_all (P := fun r => (16 * 2 + (r + r / 16)) &&& 15 = (r + r / 16) &&& 15) (by decide +kernel) hr
    · rw [h]; exact pp_all (P := fun r => (16 * 3 + (r + r / 16)) &&& 15 = (r + r / 16) &&& 15) (by decide +kernel) hr
    · rw [h]; exact pp_all (P := fun r => (16 * 4 + (r + r / 16)) &&& 15 = (r + r / 16) &&& 15) (by decide +kernel) hr
  unfold pp_C
  rw [e1, show pp_3 (k + 1) = 256 * pp_3 k + 15 from rfl, pp_and (by omega) (by decide), h2, show pp_3 1 = 15 from rfl]
theorem pp_tab {r : Nat} (hr : r < 256) : pp_A 1 r < 256 ∧ pp_B 1 (pp_A 1 r) < 69 ∧ pp_B 1 (pp_A 1 r) % 16 ≤ 4 ∧ pp_8 r ≤ 8 ∧ pp_8 r = fb_ct (fun k => r.testBit k) 8 :=
  pp_all (P := fun r => pp_A 1 r < 256 ∧ pp_B 1 (pp_A 1 r) < 69 ∧ pp_B 1 (pp_A 1 r) % 16 ≤ 4 ∧ pp_8 r ≤ 8 ∧ pp_8 r = fb_ct (fun k => r.testBit k) 8) (by decide +kernel) hr
theorem pp_low : ∀ (k n : Nat), pp_B k (pp_A k n) % 16 ≤ 4
  | 0, n => by unfold pp_B; simp [pp_2]
  | k + 1, n => by
    have e : n = 256 * (n / 256) + n % 256 := by omega
    have hr : n % 256 < 256 := Nat.mod_lt _ (by decide)
    obtain ⟨t1, t2, t3, -⟩ := pp_tab hr
    rw [e, pp_A_s k _ _ hr, pp_B_s k _ _ t1]
    omega
def pp_V : Nat → Nat → Nat | 0, _ => 0 | k + 1, n => 256 * pp_V k (n / 256) + pp_8 (n % 256)
def pp_S : Nat → Nat → Nat | 0, _ => 0 | k + 1, n => pp_8 (n % 256) + pp_S k (n / 256)
theorem pp_road : ∀ (k n : Nat), pp_C k (pp_B k (pp_A k n)) = pp_V k n
  | 0, n => by unfold pp_C; simp [pp_3, pp_V]
  | k + 1, n => by
    have e : n = 256 * (n / 256) + n % 256 := by omega
    have hr : n % 256 < 256 := Nat.mod_lt _ (by decide)
    obtain ⟨t1, t2, t3, -⟩ := pp_tab hr
    have h : pp_C (k + 1) (pp_B (k + 1) (pp_A (k + 1) (256 * (n / 256) + n % 256))) = 256 * pp_C k (pp_B k (pp_A k (n / 256))) + pp_8 (n % 256) := by
      rw [pp_A_s k _ _ hr, pp_B_s k _ _ t1, pp_C_s k _ _ t2 (pp_low k _)]
      rfl
    rw [← e] at h
    rw [h, pp_road k]
    rfl
theorem pp_sum : ∀ (k n : Nat), fb_ct (fun j => n.testBit j) (8 * k) = pp_S k n
  | 0, n => rfl
  | k + 1, n => by
    have e : n = 256 * (n / 256) + n % 256 := by omega
    have hr : n % 256 < 256 := Nat.mod_lt _ (by decide)
    obtain ⟨-, -, -, -, t5⟩ := pp_tab hr
    rw [show 8 * (k + 1) = 8 + 8 * k by omega, fb_ct_split]
    have h1 : fb_ct (fun j => n.testBit j) 8 = fb_ct (fun j => (n % 256).testBit j) 8 := fb_ct_cong fun j hj => by
      show n.testBit j = (n % 256).testBit j
      rw [show 256 = 2 ^ 8 from rfl, Nat.testBit_mod_two_pow]
      simp [hj]
    have h2 : fb_ct (fun j => n.testBit (8 + j)) (8 * k) = fb_ct (fun j => (n / 256).testBit j) (8 * k) := fb_ct_cong fun j hj => by
      show n.testBit (8 + j) = (n / 256).testBit j
      rw [show 256 = 2 ^ 8 from rfl, Nat.testBit_div_two_pow]
      congr 1
      omega
    rw [h1, h2, pp_sum k, ← t5]
    rfl
theorem pp_d1 (y c : Nat) (h : c < 256) : (256 * y + c) / 256 = y := by omega
theorem pp_d2 (y a b : Nat) (ha : a < 256) (hb : b < 256) : (256 * (256 * y + a) + b) / 65536 = y := by omega
theorem pp_d4 (y a b c d : Nat) (ha : a < 256) (hb : b < 256) (hc : c < 256) (hd : d < 256) : (256 * (256 * (256 * (256 * y + a) + b) + c) + d) / 4294967296 = y := by omega
theorem pp_f4 (x0 x1 x2 x3 c0 c1 c2 v4 : Nat) (h0 : x0 = 256 * x1 + c0) (h1 : x1 = 256 * x2 + c1) (h2 : x2 = 256 * x3 + c2) (e4 : v4 = x0 + x1) : v4 = 256 * (256 * (x2 + x3) + (c1 + c2)) + (c0 + c1) := by omega
theorem pp_f5 (x2 x3 x4 x5 x6 x7 c0 c1 c2 c3 c4 c5 c6 v4 v5 : Nat) (f4 : v4 = 256 * (256 * (x2 + x3) + (c1 + c2)) + (c0 + c1)) (h2 : x2 = 256 * x3 + c2) (h3 : x3 = 256 * x4 + c3) (h4 : x4 = 256 * x5 + c4) (h5 : x5 = 256 * x6 + c5) (h6 : x6 = 256 * x7 + c6) (e5 : v5 = v4 + (x2 + x3)) : v5 = 256 * (256 * (256 * (256 * (x4 + x5 + x6 + x7) + (c3 + c4 + c5 + c6)) + (c2 + c3 + c4 + c5)) + (c1 + c2 + c3 + c4)) + (c0 + c1 + c2 + c3) := by omega
theorem pp_f6 (u x4 x5 x6 x7 c4 c5 c6 c7 b0 v5 v6 : Nat) (f5 : v5 = 256 * u + b0) (h4 : x4 = 256 * x5 + c4) (h5 : x5 = 256 * x6 + c5) (h6 : x6 = 256 * x7 + c6) (h7 : x7 = 256 * 0 + c7) (e6 : v6 = v5 + (x4 + x5 + x6 + x7)) : v6 = 128 * (2 * (u + (x5 + x6 + x7))) + (b0 + c4 + c5 + c6 + c7) := by omega
theorem pp_b1 (y x c N : Nat) (h : y = 256 * x + c) (hc : c ≤ 8) (hx : x < N) : y < 256 * N := by omega
theorem pp_end (c0 c1 c2 c3 c4 c5 c6 c7 : Nat) (l0 : c0 ≤ 8) (l1 : c1 ≤ 8) (l2 : c2 ≤ 8) (l3 : c3 ≤ 8) (l4 : c4 ≤ 8) (l5 : c5 ≤ 8) (l6 : c6 ≤ 8) (l7 : c7 ≤ 8) (x0 x1 x2 x3 x4 x5 x6 x7 v4 v5 v6 : Nat) (h0 : x0 = 256 * x1 + c0) (h1 : x1 = 256 * x2 + c1) (h2 : x2 = 256 * x3 + c2) (h3 : x3 = 256 * x4 + c3) (h4 : x4 = 256 * x5 + c4) (h5 : x5 = 256 * x6 + c5) (h6 : x6 = 256 * x7 + c6) (h7 : x7 = 256 * 0 + c7) (e4 : v4 = x0 + x0 / 256) (e5 : v5 = v4 + v4 / 65536) (e6 : v6 = v5 + v5 / 4294967296) : x0 < 2 ^ 60 ∧ v4 < 2 ^ 61 ∧ v5 < 2 ^ 62 ∧ v6 % 128 = c0 + (c1 + (c2 + (c3 + (c4 + (c5 + (c6 + (c7 + 0))))))) := by
  have d0 : x0 / 256 = x1 := by rw [h0]; exact pp_d1 _ _ (Nat.lt_of_le_of_lt l0 (by decide))
  have q : ∀ {a b : Nat}, a ≤ 8 → b ≤ 8 → a + b < 256 := fun ha hb => by omega
  have q4 : ∀ {a b c d : Nat}, a ≤ 8 → b ≤ 8 → c ≤ 8 → d ≤ 8 → a + b + c + d < 256 := fun ha hb hc hd => by omega
  rw [d0] at e4
  have f4 := pp_f4 _ _ _ _ _ _ _ _ h0 h1 h2 e4
  have d4 : v4 / 65536 = x2 + x3 := by rw [f4]; exact pp_d2 _ _ _ (q l1 l2) (q l0 l1)
  rw [d4] at e5
  have f5 := pp_f5 _ _ _ _ _ _ _ _ _ _ _ _ _ _ _ f4 h2 h3 h4 h5 h6 e5
  have d5 : v5 / 4294967296 = x4 + x5 + x6 + x7 := by rw [f5]; exact pp_d4 _ _ _ _ _ (q4 l3 l4 l5 l6) (q4 l2 l3 l4 l5) (q4 l1 l2 l3 l4) (q4 l0 l1 l2 l3)
  rw [d5] at e6
  have f6 := pp_f6 _ _ _ _ _ _ _ _ _ _ _ _ f5 h4 h5 h6 h7 e6
  have b7 : x7 < 9 := by rw [h7, Nat.mul_zero, Nat.zero_add]; exact Nat.lt_succ_of_le l7
  have b6 := pp_b1 _ _ _ _ h6 l6 b7
  have b5 := pp_b1 _ _ _ _ h5 l5 b6
  have b4 := pp_b1 _ _ _ _ h4 l4 b5
  have b3 := pp_b1 _ _ _ _ h3 l3 b4
  have b2 := pp_b1 _ _ _ _ h2 l2 b3
  have b1 := pp_b1 _ _ _ _ h1 l1 b2
  have b0 := pp_b1 _ _ _ _ h0 l0 b1
  have w4 : v4 < 256 * (256 * (256 * (256 * (256 * (256 * (256 * 9)))))) + 256 * (256 * (256 * (256 * (256 * (256 * 9))))) := by rw [e4]; exact Nat.add_lt_add b0 b1
  have w5 : v5 < 256 * (256 * (256 * (256 * (256 * (256 * (256 * 9)))))) + 256 * (256 * (256 * (256 * (256 * (256 * 9))))) + (256 * (256 * (256 * (256 * (256 * 9)))) + 256 * (256 * (256 * (256 * 9)))) := by rw [e5]; exact Nat.add_lt_add w4 (Nat.add_lt_add b2 b3)
  refine ⟨Nat.lt_of_lt_of_le b0 (by decide), Nat.lt_of_lt_of_le w4 (by decide), Nat.lt_of_lt_of_le w5 (by decide), ?_⟩
  rw [f6, Nat.mul_add_mod]
  clear f6 f5 f4 d0 d4 d5 e4 e5 e6 h0 h1 h2 h3 h4 h5 h6 h7 b0 b1 b2 b3 b4 b5 b6 b7 w4 w5
  rw [Nat.mod_eq_of_lt (by omega)]
  omega
theorem pp_cnt (n v4 v5 v6 : Nat) (e4 : v4 = pp_V 8 n + pp_V 8 n / 256) (e5 : v5 = v4 + v4 / 65536) (e6 : v6 = v5 + v5 / 4294967296) : pp_V 8 n < 2 ^ 60 ∧ v4 < 2 ^ 61 ∧ v5 < 2 ^ 62 ∧ v6 % 128 = fb_ct (fun j => n.testBit j) 64 := by
  have hb : ∀ m : Nat, pp_8 (m % 256) ≤ 8 := fun m => (pp_tab (Nat.mod_lt m (by decide))).2.2.2.1
  rw [show (64 : Nat) = 8 * 8 from rfl, pp_sum 8 n]
  exact pp_end _ _ _ _ _ _ _ _ (hb _) (hb _) (hb _) (hb _) (hb _) (hb _) (hb _) (hb _) (pp_V 8 n) (pp_V 7 (n / 256)) (pp_V 6 (n / 256 / 256)) (pp_V 5 (n / 256 / 256 / 256)) (pp_V 4 (n / 256 / 256 / 256 / 256)) (pp_V 3 (n / 256 / 256 / 256 / 256 / 256)) (pp_V 2 (n / 256 / 256 / 256 / 256 / 256 / 256)) (pp_V 1 (n / 256 / 256 / 256 / 256 / 256 / 256 / 256)) v4 v5 v6 rfl rfl rfl rfl rfl rfl rfl rfl e4 e5 e6
theorem ks_pop (x y1 y2 y3 y4 y5 y6 : Int64) (h1 : y1 = x - (lShr x 1 &&& 6148914691236517205)) (h2 : y2 = (y1 &&& 3689348814741910323) + (lShr y1 2 &&& 3689348814741910323)) (h3 : y3 = (y2 + lShr y2 4) &&& 1085102592571150095) (h4 : y4 = y3 + lShr y3 8) (h5 : y5 = y4 + lShr y4 16) (h6 : y6 = y5 + lShr y5 32) : y6.toInt32 &&& 127 = nI (ks_bc x) := by
  obtain ⟨n, hn, rfl⟩ := wb_of x
  have m1 : (6148914691236517205 : Int64) = lN (pp_1 8) := by decide +kernel
  have m2 : (3689348814741910323 : Int64) = lN (pp_2 8) := by decide +kernel
  have m3 : (1085102592571150095 : Int64) = lN (pp_3 8) := by decide +kernel
  have b2 : pp_2 8 < 2 ^ 62 := by decide +kernel
  have b3 : pp_3 8 < 2 ^ 60 := by decide +kernel
  have s1 : lShr (lN n) 1 = lN (n / 2) := wb_shr (k := 1) hn (by decide)
  have f1 : y1 = lN (pp_A 8 n) := by
    rw [h1, s1, m1, fb_andL]
    exact lN_sub (Nat.le_trans Nat.and_le_left (Nat.div_le_self _ _))
  have l1 : pp_A 8 n < 2 ^ 64 := Nat.lt_of_le_of_lt (Nat.sub_le _ _) hn
  have s2 : lShr (lN (pp_A 8 n)) 2 = lN (pp_A 8 n / 4) := wb_shr (k := 2) l1 (by decide)
  have f2 : y2 = lN (pp_B 8 (pp_A 8 n)) := by
    rw [h2, f1, s2, m2, fb_andL, fb_andL, lN_add]
    rfl
  have l2 : pp_B 8 (pp_A 8 n) < 2 ^ 63 := by
    have q1 : pp_A 8 n &&& pp_2 8 ≤ pp_2 8 := Nat.and_le_right
    have q2 : pp_A 8 n / 4 &&& pp_2 8 ≤ pp_2 8 := Nat.and_le_right
    show (pp_A 8 n &&& pp_2 8) + (pp_A 8 n / 4 &&& pp_2 8) < 2 ^ 63
    omega
  have s3 : lShr (lN (pp_B 8 (pp_A 8 n))) 4 = lN (pp_B 8 (pp_A 8 n) / 16) := wb_shr (k := 4) (by omega) (by decide)
  have f3 : y3 = lN (pp_V 8 n) := by
    rw [h3, f2, s3, m3, lN_add, fb_andL, ← pp_road 8 n]
    rfl
  obtain ⟨c1, c2, c3, c4⟩ := pp_cnt n _ _ _ rfl rfl rfl
  have s4 : lShr (lN (pp_V 8 n)) 8 = lN (pp_V 8 n / 256) := wb_shr (k := 8) (by omega) (by decide)
  have f4 : y4 = lN (pp_V 8 n + pp_V 8 n / 256) := by rw [h4, f3, s4, lN_add]
  have s5 : lShr (lN (pp_V 8 n + pp_V 8 n / 256)) 16 = lN ((pp_V 8 n + pp_V 8 n / 256) / 65536) := wb_shr (k := 16) (by omega) (by decide)
  have f5 : y5 = lN (pp_V 8 n + pp_V 8 n / 256 + (pp_V 8 n + pp_V 8 n / 256) / 65536) := by rw [h5, f4, s5, lN_add]
  have s6 : lShr (lN (pp_V 8 n + pp_V 8 n / 256 + (pp_V 8 n + pp_V 8 n / 256) / 65536)) 32 = lN ((pp_V 8 n + pp_V 8 n / 256 + (pp_V 8 n + pp_V 8 n / 256) / 65536) / 4294967296) := wb_shr (k := 32) (by omega) (by decide)
  rw [h6, f5, s6, lN_add, lN_i, show (127 : Int32) = nI (2 ^ 7 - 1) from rfl, fa_mask, ks_bc_lN, ← c4]
