/-! words for the answers of the class, more -/
def iShr (x y : Int32) : Int32 := (x.toUInt32 >>> (y.toUInt32 &&& Int32.toUInt32 31)).toInt32
/-- trailing zeros, by the library's own road -/
def tz_1 (x : Int32) : Int32 := (x ^^^ (-1)) &&& (x - 1)
def tz_a (i : Int32) : Int32 × Int32 := if i ≤ 65536 then (1, i) else (1 + Int32.ofInt 16, iShr i 16)
def tz_b (q : Int32 × Int32) : Int32 × Int32 := if q.2 ≤ 256 then q else (q.1 + Int32.ofInt 8, iShr q.2 8)
def tz_c (q : Int32 × Int32) : Int32 × Int32 := if q.2 ≤ 16 then q else (q.1 + Int32.ofInt 4, iShr q.2 4)
def tz_d (q : Int32 × Int32) : Int32 × Int32 := if q.2 ≤ 4 then q else (q.1 + Int32.ofInt 2, iShr q.2 2)
def ks_tzI (x : Int32) : Int32 := if 0 < tz_1 x then (tz_d (tz_c (tz_b (tz_a (tz_1 x))))).1 + iShr (tz_d (tz_c (tz_b (tz_a (tz_1 x))))).2 1 else tz_1 x &&& 32
def ks_tz (x : Int64) : Int32 := if x.toInt32 = 0 then 32 + ks_tzI (lShr x 32).toInt32 else ks_tzI x.toInt32
/-- all known -/
def ks_all (n : Nat) : Int64 := lShl 1 (nI n) - 1
theorem hb_all {n k : Nat} (hn : n ≤ 40) (hk : k < 64) : hasB (ks_all n) k = decide (k < n) :=
  co64 (P := fun k => hasB (ks_all n) k = decide (k < n)) (co64 (P := fun n => n ≤ 40 → (List.range 64).all (fun k => decide (hasB (ks_all n) k = decide (k < n))) = true) (by decide +kernel) (show n < 64 by omega) hn) hk
def ks_ok (P : Pg) (t mu : Nat → Nat) (S : Int64) (k w : Nat) : Int32 := if w = 0 then nI (t k) else if w = 1 then bI (hasB S k) else if w = 2 then nI (ks_en (ks_F P t) S mu k) else if w = 3 then nI (mu k) else if w = 4 then nI (ks_rs P (t k)) else if w = 5 then nI (ks_ed (ks_fd P (t k))) else nI (ks_ed (ks_al (ks_F P t) k S))
def ks_oe (P : Pg) (t : Nat → Nat) (n : Nat) (S : Int64) (ed w : Nat) : Int32 := if w = 0 then nI (ks_bc (ks_cv (ks_F P t) ed n &&& S)) else if w = 1 then nI (ks_bc (ks_cv (ks_F P t) ed n)) else if ks_cv (ks_F P t) ed n = 0 then -1 else ks_tz (ks_cv (ks_F P t) ed n)
def ks_my (P : Pg) (t : Nat → Nat) (n : Nat) (S : Int64) (rc sd w : Nat) : Int32 := if w = 0 then nI n else if w = 1 then nI (ks_bc S) else if w = 2 then nI (ks_ed (ks_fb (ks_F P t) S 41)) else if w = 3 then nI (ks_ed (ks_fb (ks_F P t) (ks_all n) 41)) else if w = 4 then nI (ks_bc (lShr (ks_fb (ks_F P t) S 41) 24)) else if w = 5 then nI rc else if w = 6 then nI sd else nI (ks_bc (ks_rR P 12))
theorem ks_cv_cong {F G : Nat → Int64} {ed n : Nat} (hF : ∀ i, i < n → F i = G i) : ks_cv F ed n = ks_cv G ed n := by
  have key : ∀ k, k ≤ n → ks_cv F ed k = ks_cv G ed k := by
    intro k
    induction k with
    | zero => intro _; rfl
    | succ k ih =>
      intro hk
      unfold ks_cv
      rw [ih (by omega), hF k (by omega)]
  exact key n (Nat.le_refl n)
theorem ks_fbS {F G : Nat → Int64} {n : Nat} {S : Int64} (hS : ks_SK n S) (hF : ∀ i, i < n → F i = G i) : ks_fb F S 41 = ks_fb G S 41 := ks_fb_cong 41 fun i hi h => by
  by_cases hin : i < n
  · exact hF i hin
  · rw [hS i (by omega) (by omega)] at h
    cases h
theorem ks_SK_all {n : Nat} (hn : n ≤ 40) : ks_SK n (ks_all n) := fun i h1 h2 => by rw [hb_all hn h2, decide_eq_false (by omega)]
theorem ks_en_cong {F G : Nat → Int64} {S : Int64} {mu : Nat → Nat} {n k : Nat} (hn : n ≤ 40) (hk : k < n) (hS : ks_SK n S) (hF : ∀ i, i < n → F i = G i) : ks_en F S mu k = ks_en G S mu k := by
  unfold ks_en
  rw [ks_al_cong hS hF (hF k hk) (by omega)]
theorem ks_we_cong {F G : Nat → Int64} {S : Int64} {mu : Nat → Nat} {n : Nat} (hn : n ≤ 40) (hS : ks_SK n S) (hF : ∀ i, i < n → F i = G i) : ks_we F S mu n = ks_we G S mu n := by
  have key : ∀ k, k ≤ n → ks_we F S mu k = ks_we G S mu k := by
    intro k
    induction k with
    | zero => intro _; rfl
    | succ k ih =>
      intro hk
      unfold ks_we
      rw [ih (by omega), ks_en_cong hn (by omega) hS hF]
  exact key n (Nat.le_refl n)
theorem ks_ff_s (F : Nat → Int64) (n d k : Nat) (o : Int64) (u b : Nat) : ks_ff F n (d + 1) k o u b = (if o = 0 then (if b < u then b else u) else if n ≤ k ∨ 12 ≤ k ∨ ¬ u + 1 < b then b else ks_ff F n d (k + 1) o u (if F k &&& o = 0 then b else ks_ff F n d (k + 1) (o &&& (F k ^^^ (-1))) (u + 1) b)) := rfl
theorem ks_ff_cong {F G : Nat → Int64} {n : Nat} (hF : ∀ i, i < n → F i = G i) : ∀ (d k : Nat) (o : Int64) (u b : Nat), ks_ff F n d k o u b = ks_ff G n d k o u b
  | 0, k, o, u, b => rfl
  | d + 1, k, o, u, b => by
    rw [ks_ff_s, ks_ff_s]
    by_cases h : n ≤ k ∨ 12 ≤ k ∨ ¬ u + 1 < b
    · rw [if_pos h, if_pos h]
    · rw [if_neg h, if_neg h, hF k (by omega), ks_ff_cong hF d, ks_ff_cong hF d]
theorem ks_minN {u b : Nat} (hu : u < 2 ^ 31) (hb : b < 2 ^ 31) : (if nI b < nI u then nI b else nI u) = nI (if b < u then b else u) := by
  by_cases h : b < u
  · rw [if_pos h, if_pos ((nI_ltI hb hu).mpr h)]
  · rw [if_neg h, if_neg (fun q => h ((nI_ltI hb hu).mp q))]
/-- fewest -/
def ks_fw (P : Pg) (t : Nat → Nat) (n : Nat) : Int32 := if 12 < n then -1 else nI (ks_ff (ks_F P t) n 12 0 (ks_fb (ks_F P t) (ks_all n) 41 &&& 16777215) 0 n)
/-- the mean of e over k -/
def ks_me (e k : Nat) : UInt64 := if k = 0 then FP.dconst0 else FP.ddiv (FP.i2d (nI e)) (FP.i2d (nI k))
set_option maxRecDepth 100000 in
theorem fp_tb1 : (List.range 16).all (fun k => (List.range 154).all (fun e => decide (FP.ddiv (FP.i2d (nI e)) (FP.i2d (nI (k + 1))) &&& 0x7fffffffffffffff ≤ 0x7ff0000000000000))) = true := by decide +kernel
theorem fp_tab : ∀ k, k < 17 → 0 < k → ∀ e, e < 154 → vf_n64 (FP.ddiv (FP.i2d (nI e)) (FP.i2d (nI k))) := fun k hk h0 e he => by
  have h := List.all_eq_true.mp (List.all_eq_true.mp fp_tb1 (k - 1) (List.mem_range.mpr (by omega))) e (List.mem_range.mpr he)
  rw [show k - 1 + 1 = k by omega] at h
  unfold vf_n64
  exact of_decide_eq_true h
/-- a fold -/
def ks_fo (g : Nat → Int64 → Int64) (d : Int64) : Nat → Int64
  | 0 => d
  | k + 1 => g k (ks_fo g d k)
def ks_d1 (d : Int64) (v : Int32) : Int64 := d * 31 + v.toInt64
def ks_dig (P : Pg) (W : Wg) (sd : Nat) (t mu : Nat → Nat) (n : Nat) (S : Int64) (Q : Rg) (rc : Nat) : Int64 :=
  ks_fo (fun c d => ks_d1 (ks_d1 (ks_d1 d (nI (ks_rs P c))) (nI (ks_ed (ks_fd P c)))) (ks_wd (ks_S2 P t n c S) S))
    (ks_d1 (ks_d1 (ks_fo (fun r d => ks_d1 d (ks_oI n (ks_bb P Q t n r)))
      (ks_fo (fun ed d => ks_fo (fun w d => ks_d1 d (ks_oe P t n S ed w)) d 3)
        (ks_fo (fun k d => ks_fo (fun w d => ks_d1 d (ks_ok P t mu S k w)) d 7) (ks_fo (fun w d => ks_d1 d (ks_my P t n S rc sd w)) 5740 8) n) 24) rc) (ks_fw P t n)) (nI (ks_bc (ks_ap P W sd 5).1))) 10
