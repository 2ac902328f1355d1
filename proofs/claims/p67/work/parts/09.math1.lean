/-! the arithmetic of one loan -/
/-- interest, carry, and the whole of the next month -/
def fI (b r c : Int) : Int := (b * r + c) / 120000
def fC (b r c : Int) : Int := (b * r + c) % 120000
def fW (b r c : Int) : Int := b + fI b r c
/-- the amount due of a month whose whole is w -/
def fD (w i m : Int) : Int := if w ≤ i ∨ m = 1 then w else i
theorem fD_w {w i m : Int} (h : w ≤ i ∨ m = 1) : fD w i m = w := if_pos h
theorem fD_i {w i m : Int} (h : i < w) (h2 : m ≠ 1) : fD w i m = i := if_neg (by omega)
/-- x, but 0 when b is 0 -/
def fz (b x : Int) : Int := if b = 0 then 0 else x
theorem fz_0 {b x : Int} (h : b = 0) : fz b x = 0 := if_pos h
theorem fz_n {b x : Int} (h : b ≠ 0) : fz b x = x := if_neg h
theorem lo_mb {b r : Int} (hb : 0 ≤ b) (hr : 0 ≤ r) (hr1 : r ≤ 3000) : 0 ≤ b * r ∧ b * r ≤ b * 3000 := ⟨Int.mul_nonneg hb hr, Int.mul_le_mul_of_nonneg_left hr1 hb⟩
theorem fI_r {b r c : Int} (hb : 0 ≤ b) (hr : 0 ≤ r) (hr1 : r ≤ 3000) (hc : 0 ≤ c) (hc1 : c < 120000) : 0 ≤ fI b r c ∧ fI b r c ≤ b / 40 + 1 := by
  have h := lo_mb hb hr hr1
  unfold fI
  omega
theorem fC_r (b r c : Int) : 0 ≤ fC b r c ∧ fC b r c < 120000 := by unfold fC; omega
/-- the month in which a whole is at most A, of n months from the k-th on; -1 if none -/
def trm (r A : Int) : Nat → Int → Int → Int → Int
  | 0, _, _, _ => -1
  | n + 1, k, b, c => if fW b r c ≤ A then k else trm r A n (k + 1) (fW b r c - A) (fC b r c)
theorem trm_hit {r A b c k : Int} {n : Nat} (h : fW b r c ≤ A) : trm r A (n + 1) k b c = k := if_pos h
theorem trm_go {r A b c k : Int} {n : Nat} (h : A < fW b r c) : trm r A (n + 1) k b c = trm r A n (k + 1) (fW b r c - A) (fC b r c) := if_neg (by omega)
theorem trm_r (r A : Int) : ∀ (n : Nat) (k b c : Int), trm r A n k b c = -1 ∨ (k ≤ trm r A n k b c ∧ trm r A n k b c < k + n)
  | 0, k, b, c => Or.inl rfl
  | n + 1, k, b, c => by
    by_cases h : fW b r c ≤ A
    · rw [trm_hit h]; omega
    · rw [trm_go (by omega)]
      have := trm_r r A n (k + 1) (fW b r c - A) (fC b r c)
      omega
/-- halving -/
def bsr (r m b c : Int) : Nat → Int → Int → Int
  | 0, lo, _ => lo
  | n + 1, lo, hi => if lo < hi then (if trm r ((lo + hi) / 2) m.toNat 1 b c = -1 then bsr r m b c n ((lo + hi) / 2 + 1) hi else bsr r m b c n lo ((lo + hi) / 2)) else lo
theorem bsr_end {r m b c lo hi : Int} (n : Nat) (h : hi ≤ lo) : bsr r m b c n lo hi = lo := by
  cases n with
  | zero => rfl
  | succ n => exact if_neg (by omega)
theorem bsr_up {r m b c lo hi : Int} {n : Nat} (h : lo < hi) (h2 : trm r ((lo + hi) / 2) m.toNat 1 b c = -1) : bsr r m b c (n + 1) lo hi = bsr r m b c n ((lo + hi) / 2 + 1) hi := by
  show (if lo < hi then _ else _) = _
  rw [if_pos h, if_pos h2]
theorem bsr_dn {r m b c lo hi : Int} {n : Nat} (h : lo < hi) (h2 : trm r ((lo + hi) / 2) m.toNat 1 b c ≠ -1) : bsr r m b c (n + 1) lo hi = bsr r m b c n lo ((lo + hi) / 2) := by
  show (if lo < hi then _ else _) = _
  rw [if_pos h, if_neg h2]
/-- the level installment -/
theorem lvl_ex : ∃ f : Int → Int → Int → Int → Int, ∀ b r c m, f b r c m = bsr r m b c 32 1 (fW b r c) := ⟨fun b r c m => bsr r m b c 32 1 (fW b r c), fun _ _ _ _ => rfl⟩
noncomputable def lvl (b r c m : Int) : Int := Classical.choose lvl_ex b r c m
theorem lvl_def (b r c m : Int) : lvl b r c m = bsr r m b c 32 1 (fW b r c) := Classical.choose_spec lvl_ex b r c m
/-- how far a balance can grow in n months -/
def gb : Nat → Int
  | 0 => 10000000
  | n + 1 => gb n + gb n / 40 + 2
theorem gb_big : ∀ n, n < 122 → 0 ≤ gb n ∧ gb n ≤ 1000000000 := by decide +kernel
theorem gb_s (n : Nat) : gb (n + 1) = gb n + gb n / 40 + 2 := rfl
