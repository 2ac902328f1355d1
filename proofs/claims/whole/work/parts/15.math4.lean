/-! the reference's walk: 12 balance, 13 carry, 14 interest, 15 due, 16 months, 17 cost -/
def bgM (M : Nat → Int) (b c : Int) : Nat → Int := uI (uI (uI (uI (uI (uI M 12 b) 13 c) 16 0) 17 0) 15 0) 14 0
def stM (M : Nat → Int) (r A m : Int) : Nat → Int := uI (uI (uI (uI (uI (uI M 14 (fI (M 12) r (M 13))) 13 (fC (M 12) r (M 13))) 15 (fD (fW (M 12) r (M 13)) A m)) 12 (fW (M 12) r (M 13) - fD (fW (M 12) r (M 13)) A m)) 17 (M 17 + fI (M 12) r (M 13))) 16 (M 16 + 1)
def waM (r A : Int) : Nat → (Nat → Int) → (Nat → Int)
  | 0, M => M
  | n + 1, M => if 0 < M 12 then waM r A n (stM M r A ((n : Int) + 1)) else M
theorem waM_s {r A : Int} {M : Nat → Int} {i : Int} (h0 : 0 < i) (h : 0 < M 12) : waM r A i.toNat M = waM r A (i + (-1)).toNat (stM M r A i) := by
  rw [show i.toNat = (i + (-1)).toNat + 1 by omega]
  show (if _ then _ else _) = _
  rw [if_pos h, show (((i + (-1)).toNat : Nat) : Int) + 1 = i by omega]
theorem waM_e {r A : Int} {M : Nat → Int} {n : Nat} (h : M 12 ≤ 0) : waM r A n M = M := by
  cases n with
  | zero => rfl
  | succ n => exact if_neg (by omega)
theorem stM_12 (M : Nat → Int) (r A m : Int) : stM M r A m 12 = fW (M 12) r (M 13) - fD (fW (M 12) r (M 13)) A m := rfl
theorem stM_13 (M : Nat → Int) (r A m : Int) : stM M r A m 13 = fC (M 12) r (M 13) := rfl
theorem stM_15 (M : Nat → Int) (r A m : Int) : stM M r A m 15 = fD (fW (M 12) r (M 13)) A m := rfl
/-- fields outside the walk stay -/
def sameW (M N : Nat → Int) : Prop := ∀ k, k < 12 ∨ 17 < k → N k = M k
theorem sameW.rf {M : Nat → Int} : sameW M M := fun _ _ => rfl
theorem sameW.tr {M N K : Nat → Int} (h : sameW M N) (h2 : sameW N K) : sameW M K := fun k hk => (h2 k hk).trans (h k hk)
theorem bgM_same (M : Nat → Int) (b c : Int) : sameW M (bgM M b c) := fun k hk => by
  unfold bgM
  rw [uI_n (by omega), uI_n (by omega), uI_n (by omega), uI_n (by omega), uI_n (by omega), uI_n (by omega)]
theorem stM_same (M : Nat → Int) (r A m : Int) : sameW M (stM M r A m) := fun k hk => by
  unfold stM
  rw [uI_n (by omega), uI_n (by omega), uI_n (by omega), uI_n (by omega), uI_n (by omega), uI_n (by omega)]
theorem waM_same (r A : Int) : ∀ (n : Nat) (M : Nat → Int), sameW M (waM r A n M)
  | 0, M => sameW.rf
  | n + 1, M => by
    show sameW M (if _ then _ else _)
    by_cases h : 0 < M 12
    · rw [if_pos h]; exact (stM_same M r A _).tr (waM_same r A n _)
    · rw [if_neg h]; exact sameW.rf
/-- the walk's last due is at most A just where the term ends -/
theorem waM_suit {r A : Int} (hr : 0 ≤ r) (hA : 0 ≤ A) : ∀ (n : Nat) (M : Nat → Int), 1 ≤ M 12 → 0 ≤ M 13 → (waM r A (n + 1) M 15 ≤ A ↔ trm r A (n + 1) 1 (M 12) (M 13) ≠ -1)
  | n, M, hb, hc => by
    have hw : fW (M 12) r (M 13) = M 12 + fI (M 12) r (M 13) := rfl
    have e : waM r A (n + 1) M = waM r A n (stM M r A ((n : Int) + 1)) := if_pos (by omega)
    have hI : 0 ≤ fI (M 12) r (M 13) := by
      have := Int.mul_nonneg (show 0 ≤ M 12 by omega) hr
      unfold fI; omega
    rw [e]
    by_cases h1 : fW (M 12) r (M 13) ≤ A
    · have hd : fD (fW (M 12) r (M 13)) A ((n : Int) + 1) = fW (M 12) r (M 13) := fD_w (Or.inl h1)
      rw [waM_e (by rw [stM_12, hd]; omega), stM_15, hd, trm_hit h1]
      omega
    · rw [trm_go (by omega)]
      match n with
      | 0 =>
        have hd : fD (fW (M 12) r (M 13)) A (((0 : Nat) : Int) + 1) = fW (M 12) r (M 13) := fD_w (Or.inr rfl)
        show (stM M r A (((0 : Nat) : Int) + 1)) 15 ≤ A ↔ (-1 : Int) ≠ -1
        rw [stM_15, hd]
        omega
      | n + 1 =>
        have hd : fD (fW (M 12) r (M 13)) A (((n + 1 : Nat) : Int) + 1) = A := fD_i (by omega) (by omega)
        have hc2 := fC_r (M 12) r (M 13)
        have ih := waM_suit hr hA n (stM M r A (((n + 1 : Nat) : Int) + 1)) (by rw [stM_12, hd]; omega) (by rw [stM_13]; omega)
        rw [ih, stM_12, stM_13, hd]
        exact not_congr (trm_sh r A (n + 1) 1 2 _ _ (by omega) (by omega))
/-- a place of the row w: loan i, field k -/
def wOf (w : Nat → Int) (i k : Int) : Int := w (62 + i * 10 + k).toNat
def wPut (w : Nat → Int) (i k v : Int) : Nat → Int := uI w (62 + i * 10 + k).toNat v
def WL (w : Nat → Int) (i : Int) : Nat → Int := fun k => wOf w i (k : Int)
theorem lo_pw {fu : Nat} {x : Int} (h : 0 < x) (h2 : x < 2 ^ fu) : 1 ≤ fu ∧ (2:Int) ^ fu = 2 * 2 ^ (fu - 1) := by
  cases fu with
  | zero => have : (2:Int) ^ 0 = 1 := rfl; omega
  | succ k => rw [Nat.add_sub_cancel, Int.pow_succ]; omega
theorem bsr_upF {r m b c lo hi : Int} {n : Nat} (hn : 1 ≤ n) (h : lo < hi) (h2 : trm r ((lo + hi) / 2) m.toNat 1 b c = -1) : bsr r m b c n lo hi = bsr r m b c (n - 1) ((lo + hi) / 2 + 1) hi := by
  cases n with
  | zero => omega
  | succ k => exact bsr_up h h2
theorem bsr_dnF {r m b c lo hi : Int} {n : Nat} (hn : 1 ≤ n) (h : lo < hi) (h2 : trm r ((lo + hi) / 2) m.toNat 1 b c ≠ -1) : bsr r m b c n lo hi = bsr r m b c (n - 1) lo ((lo + hi) / 2) := by
  cases n with
  | zero => omega
  | succ k => exact bsr_dn h h2
/-- the first month with which a term ends -/
theorem trm_first {r A b c m : Int} {n : Nat} (hm : 1 ≤ m) (hn : m ≤ n) (h1 : trm r A (m - 1).toNat 1 b c = -1) (h2 : trm r A m.toNat 1 b c ≠ -1) : trm r A n 1 b c = m := by
  have e := trm_more r A m.toNat (n - m.toNat) 1 b c h2
  rw [show m.toNat + (n - m.toNat) = n by omega] at e
  rw [e]
  have hr := trm_r r A m.toNat 1 b c
  have hx := trm_exact r A m.toNat 1 b c h2
  generalize hz : trm r A m.toNat 1 b c = z at h2 hr hx ⊢
  rcases Int.lt_or_le z m with hlt | hle
  · exfalso
    have h3 : trm r A (z - 1 + 1).toNat 1 b c ≠ -1 := by rw [hx]; exact h2
    have e3 := trm_more r A (z - 1 + 1).toNat ((m - 1).toNat - (z - 1 + 1).toNat) 1 b c h3
    rw [show (z - 1 + 1).toNat + ((m - 1).toNat - (z - 1 + 1).toNat) = (m - 1).toNat by omega, h1] at e3
    exact h3 e3.symm
  · omega
noncomputable def wCalc (w : Nat → Int) (i : Int) : Nat → Int := wPut w i 4 (lvl (wOf w i 1) (wOf w i 2) (wOf w i 5) (wOf w i 3))
def nmM (M w : Nat → Int) (i : Int) : Nat → Int := stM (bgM M (wOf w i 1) (wOf w i 5)) (wOf w i 2) (wOf w i 4) (wOf w i 3)
def ahM (M w : Nat → Int) (i : Int) : Nat → Int := waM (wOf w i 2) (wOf w i 4) (wOf w i 3).toNat (bgM M (wOf w i 1) (wOf w i 5))
