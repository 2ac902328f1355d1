/-! a loan as a row of ten numbers: 0 principal, 1 balance, 2 rate, 3 months, 4 installment, 5 carry, 6 interest, 7 paid, 8 payments, 9 skipped -/
def lf (a b c d e f g h i j : Int) : Nat → Int := fun k => match k with
  | 0 => a | 1 => b | 2 => c | 3 => d | 4 => e | 5 => f | 6 => g | 7 => h | 8 => i | _ => j
/-- the balance in parts, and months that never end: the interest eats the installment -/
theorem trm_no (r A : Int) : ∀ (n : Nat) (k b c : Int), 1 ≤ b → 0 ≤ r → 0 ≤ c → A * 120000 < b * r → trm r A n k b c = -1
  | 0, k, b, c, _, _, _, _ => rfl
  | n + 1, k, b, c, hb, hr, hc, h => by
    have h1 : A ≤ fI b r c := by unfold fI; omega
    have hw : fW b r c = b + fI b r c := rfl
    rw [trm_go (by omega)]
    have h2 : b ≤ fW b r c - A := by omega
    have h3 : b * r ≤ (fW b r c - A) * r := Int.mul_le_mul_of_nonneg_right h2 hr
    exact trm_no r A n (k + 1) _ _ (by omega) hr (fC_r b r c).1 (by omega)
theorem trm_sh (r A : Int) : ∀ (n : Nat) (k j b c : Int), 0 ≤ k → 0 ≤ j → (trm r A n k b c = -1 ↔ trm r A n j b c = -1)
  | 0, k, j, b, c, _, _ => Iff.rfl
  | n + 1, k, j, b, c, hk, hj => by
    by_cases h : fW b r c ≤ A
    · rw [trm_hit h, trm_hit h]; omega
    · rw [trm_go (by omega), trm_go (by omega)]
      exact trm_sh r A n (k + 1) (j + 1) _ _ (by omega) (by omega)
theorem trm_st (r A : Int) : ∀ (n : Nat) (k j b c : Int), trm r A n k b c ≠ -1 → 0 ≤ k → 0 ≤ j → trm r A n j b c = trm r A n k b c + (j - k)
  | 0, k, j, b, c, h, _, _ => absurd rfl h
  | n + 1, k, j, b, c, h, hk, hj => by
    by_cases h1 : fW b r c ≤ A
    · rw [trm_hit h1, trm_hit h1]; omega
    · rw [trm_go (by omega)] at h ⊢
      rw [trm_go (by omega)]
      rw [trm_st r A n (k + 1) (j + 1) _ _ h (by omega) (by omega)]
      omega
/-- a term that ends: the installment is no less than the interest -/
theorem trm_dec {r A b c k : Int} {n : Nat} (h : trm r A n k b c ≠ -1) (hb : 1 ≤ b) (hr : 0 ≤ r) (hc : 0 ≤ c) (hc1 : c < 120000) : fI b r c ≤ A := by
  by_cases h1 : A * 120000 < b * r
  · exact absurd (trm_no r A n k b c hb hr hc h1) h
  · unfold fI; omega
/-- what a loan is: open, with a term that ends, or closed -/
def LI (L : Nat → Int) : Prop := (0 ≤ L 1 ∧ L 1 ≤ 9999999) ∧ (0 ≤ L 2 ∧ L 2 ≤ 3000) ∧ (0 ≤ L 5 ∧ L 5 < 120000) ∧ (0 ≤ L 3 ∧ L 3 ≤ 120) ∧ (0 ≤ L 4 ∧ L 4 ≤ 10249999) ∧ (0 ≤ L 9 ∧ L 9 ≤ 6 ∧ L 0 + L 6 - L 7 = L 1) ∧
  (0 < L 1 → 1 ≤ L 3 ∧ 1 ≤ L 4 ∧ trm (L 2) (L 4) (L 3).toNat 1 (L 1) (L 5) ≠ -1) ∧ (L 1 = 0 → L 3 = 0 ∧ L 4 = 0 ∧ L 5 = 0)
/-- what a month pays, and the loan behind it -/
def dueL (L : Nat → Int) : Int := fD (fW (L 1) (L 2) (L 5)) (L 4) (L 3)
def payL (L : Nat → Int) : Nat → Int := lf (L 0) (fW (L 1) (L 2) (L 5) - dueL L) (L 2) (fz (fW (L 1) (L 2) (L 5) - dueL L) (L 3 + (-1))) (fz (fW (L 1) (L 2) (L 5) - dueL L) (L 4)) (fz (fW (L 1) (L 2) (L 5) - dueL L) (fC (L 1) (L 2) (L 5))) (L 6 + fI (L 1) (L 2) (L 5)) (L 7 + dueL L) (L 8 + 1) (L 9)
theorem payL_cases {L : Nat → Int} (h : LI L) (ho : 0 < L 1) : (dueL L = fW (L 1) (L 2) (L 5) ∧ fW (L 1) (L 2) (L 5) ≤ L 4) ∨ (dueL L = L 4 ∧ L 4 < fW (L 1) (L 2) (L 5) ∧ 2 ≤ L 3 ∧ fI (L 1) (L 2) (L 5) ≤ L 4 ∧ trm (L 2) (L 4) (L 3 - 1).toNat 1 (fW (L 1) (L 2) (L 5) - L 4) (fC (L 1) (L 2) (L 5)) ≠ -1) := by
  obtain ⟨h1, h2, h5, h3, h4, h9, ho1, hc⟩ := h
  obtain ⟨o3, o4, ot⟩ := ho1 ho
  by_cases hw : fW (L 1) (L 2) (L 5) ≤ L 4
  · exact Or.inl ⟨fD_w (Or.inl hw), hw⟩
  · right
    have e : (L 3).toNat = (L 3 - 1).toNat + 1 := by omega
    have hd := trm_dec ot ho h2.1 h5.1 h5.2
    rw [e, trm_go (by omega)] at ot
    have hn : L 3 ≠ 1 := by
      intro h
      rw [h] at ot
      exact ot rfl
    exact ⟨fD_i (by omega) hn, by omega, by omega, hd, fun z => ot ((trm_sh _ _ _ 1 2 _ _ (by omega) (by omega)).mp z)⟩
theorem payL_LI {L : Nat → Int} (h : LI L) (ho : 0 < L 1) : LI (payL L) := by
  have hc := payL_cases h ho
  obtain ⟨h1, h2, h5, h3, h4, h9, ho1, hcl⟩ := h
  have hC := fC_r (L 1) (L 2) (L 5)
  have hw : fW (L 1) (L 2) (L 5) = L 1 + fI (L 1) (L 2) (L 5) := rfl
  rcases hc with ⟨e, hw1⟩ | ⟨e, hw1, hm, hI, ht⟩
  · have z : fW (L 1) (L 2) (L 5) - dueL L = 0 := by omega
    unfold payL
    simp only [fz_0 z]
    exact ⟨by show 0 ≤ fW (L 1) (L 2) (L 5) - dueL L ∧ fW (L 1) (L 2) (L 5) - dueL L ≤ (9999999 : Int); omega, h2, by show (0:Int) ≤ 0 ∧ (0:Int) < 120000; omega, by show (0:Int) ≤ 0 ∧ (0:Int) ≤ 120; omega, by show (0:Int) ≤ 0 ∧ (0:Int) ≤ 10249999; omega, ⟨h9.1, h9.2.1, by show L 0 + (L 6 + fI (L 1) (L 2) (L 5)) - (L 7 + dueL L) = fW (L 1) (L 2) (L 5) - dueL L; omega⟩, fun q => absurd (show 0 < fW (L 1) (L 2) (L 5) - dueL L from q) (by omega), fun _ => ⟨rfl, rfl, rfl⟩⟩
  · have z : fW (L 1) (L 2) (L 5) - dueL L ≠ 0 := by omega
    unfold payL
    simp only [fz_n z]
    rw [e]
    exact ⟨by show 0 ≤ fW (L 1) (L 2) (L 5) - L 4 ∧ fW (L 1) (L 2) (L 5) - L 4 ≤ (9999999 : Int); omega, h2, hC, by show 0 ≤ L 3 + (-1) ∧ L 3 + (-1) ≤ 120; omega, h4, ⟨h9.1, h9.2.1, by show L 0 + (L 6 + fI (L 1) (L 2) (L 5)) - (L 7 + L 4) = fW (L 1) (L 2) (L 5) - L 4; omega⟩, fun _ => ⟨by show 1 ≤ L 3 + (-1); omega, by show 1 ≤ L 4; have := (ho1 ho).2.1; omega, by
      show trm (L 2) (L 4) (L 3 + (-1)).toNat 1 (fW (L 1) (L 2) (L 5) - L 4) (fC (L 1) (L 2) (L 5)) ≠ -1
      exact ht⟩, fun q => absurd (show fW (L 1) (L 2) (L 5) - L 4 = 0 from q) (by omega)⟩
/-- n payments, as long as it is open; and the last amount -/
def runL : Nat → (Nat → Int) → (Nat → Int)
  | 0, L => L
  | n + 1, L => if 0 < L 1 then runL n (payL L) else L
def lastL : Nat → (Nat → Int) → Int → Int
  | 0, _, d => d
  | n + 1, L, d => if 0 < L 1 then lastL n (payL L) (dueL L) else d
theorem runL_s {n : Nat} {L : Nat → Int} (h : 0 < L 1) : runL (n + 1) L = runL n (payL L) := if_pos h
theorem runL_e {n : Nat} {L : Nat → Int} (h : L 1 ≤ 0) : runL n L = L := by
  cases n with
  | zero => rfl
  | succ n => exact if_neg (by omega)
theorem lastL_s {n : Nat} {L : Nat → Int} {d : Int} (h : 0 < L 1) : lastL (n + 1) L d = lastL n (payL L) (dueL L) := if_pos h
theorem lastL_e {n : Nat} {L : Nat → Int} {d : Int} (h : L 1 ≤ 0) : lastL n L d = d := by
  cases n with
  | zero => rfl
  | succ n => exact if_neg (by omega)
theorem runL_LI : ∀ (n : Nat) (L : Nat → Int), LI L → LI (runL n L)
  | 0, L, h => h
  | n + 1, L, h => by
    by_cases ho : 0 < L 1
    · rw [runL_s ho]; exact runL_LI n _ (payL_LI h ho)
    · rw [runL_e (by omega)]; exact h
/-- the level installment is one with which the term ends -/
theorem bsr_ok (r m b c : Int) (hm : 1 ≤ m) : ∀ (n : Nat) (lo hi : Int), lo ≤ hi → hi - lo < 2 ^ n → trm r hi m.toNat 1 b c ≠ -1 → trm r (bsr r m b c n lo hi) m.toNat 1 b c ≠ -1 ∧ lo ≤ bsr r m b c n lo hi ∧ bsr r m b c n lo hi ≤ hi
  | 0, lo, hi, h, h2, h3 => by
    have e : lo = hi := by have : (2:Int) ^ 0 = 1 := rfl; omega
    subst e
    exact ⟨h3, by show lo ≤ lo; omega, by show lo ≤ lo; omega⟩
  | n + 1, lo, hi, h, h2, h3 => by
    have hp : (2:Int) ^ (n + 1) = 2 * 2 ^ n := by rw [Int.pow_succ]; omega
    by_cases h4 : lo < hi
    · by_cases h5 : trm r ((lo + hi) / 2) m.toNat 1 b c = -1
      · rw [bsr_up h4 h5]
        have := bsr_ok r m b c hm n ((lo + hi) / 2 + 1) hi (by omega) (by omega) h3
        exact ⟨this.1, by omega, this.2.2⟩
      · rw [bsr_dn h4 h5]
        have := bsr_ok r m b c hm n lo ((lo + hi) / 2) (by omega) (by omega) h5
        exact ⟨this.1, this.2.1, by omega⟩
    · rw [bsr_end _ (by omega)]
      have e : lo = hi := by omega
      subst e
      exact ⟨h3, by omega, by omega⟩
theorem lvl_ok {b r c m : Int} (hb : 1 ≤ b) (hb1 : b ≤ 9999999) (hr : 0 ≤ r) (hr1 : r ≤ 3000) (hc : 0 ≤ c) (hc1 : c < 120000) (hm : 1 ≤ m) : trm r (lvl b r c m) m.toNat 1 b c ≠ -1 ∧ 1 ≤ lvl b r c m ∧ lvl b r c m ≤ fW b r c := by
  have hf := fI_r (by omega) hr hr1 hc hc1 (b := b)
  have hw : fW b r c = b + fI b r c := rfl
  rw [lvl_def]
  refine bsr_ok r m b c hm 32 1 (fW b r c) (by omega) (by have : (2:Int) ^ 32 = 4294967296 := rfl; omega) ?_
  rw [show m.toNat = (m - 1).toNat + 1 by omega, trm_hit (Int.le_refl _)]
  omega
/-- a loan with other terms: rate, months, and the installment anew -/
noncomputable def setL (L : Nat → Int) (r m : Int) : Nat → Int := lf (L 0) (L 1) r m (lvl (L 1) r (L 5) m) (L 5) (L 6) (L 7) (L 8) (L 9)
theorem setL_LI {L : Nat → Int} {r m : Int} (h : LI L) (ho : 0 < L 1) (hr : 0 ≤ r) (hr1 : r ≤ 3000) (hm : 1 ≤ m) (hm1 : m ≤ 120) : LI (setL L r m) := by
  obtain ⟨h1, h2, h5, h3, h4, h9, ho1, hcl⟩ := h
  have hl := lvl_ok ho h1.2 hr hr1 h5.1 h5.2 hm
  have hf := fI_r h1.1 hr hr1 h5.1 h5.2
  have hw : fW (L 1) r (L 5) = L 1 + fI (L 1) r (L 5) := rfl
  exact ⟨h1, ⟨hr, hr1⟩, h5, by show 0 ≤ m ∧ m ≤ 120; omega, by show 0 ≤ lvl (L 1) r (L 5) m ∧ lvl (L 1) r (L 5) m ≤ 10249999; omega, h9, fun _ => ⟨hm, hl.2.1, hl.1⟩, fun q => absurd (show L 1 = 0 from q) (by omega)⟩
/-- a month skipped -/
noncomputable def defL (L : Nat → Int) : Nat → Int := lf (L 0) (fW (L 1) (L 2) (L 5)) (L 2) (L 3) (lvl (fW (L 1) (L 2) (L 5)) (L 2) (fC (L 1) (L 2) (L 5)) (L 3)) (fC (L 1) (L 2) (L 5)) (L 6 + fI (L 1) (L 2) (L 5)) (L 7) (L 8) (L 9 + 1)
theorem defL_LI {L : Nat → Int} (h : LI L) (ho : 0 < L 1) (hk : L 9 < 6) (hw : fW (L 1) (L 2) (L 5) ≤ 9999999) : LI (defL L) := by
  obtain ⟨h1, h2, h5, h3, h4, h9, ho1, hcl⟩ := h
  have hf := fI_r h1.1 h2.1 h2.2 h5.1 h5.2
  have e : fW (L 1) (L 2) (L 5) = L 1 + fI (L 1) (L 2) (L 5) := rfl
  have hC := fC_r (L 1) (L 2) (L 5)
  have hl := lvl_ok (b := fW (L 1) (L 2) (L 5)) (by omega) hw h2.1 h2.2 hC.1 hC.2 (ho1 ho).1
  have hf2 := fI_r (b := fW (L 1) (L 2) (L 5)) (by omega) h2.1 h2.2 hC.1 hC.2
  have e2 : fW (fW (L 1) (L 2) (L 5)) (L 2) (fC (L 1) (L 2) (L 5)) = fW (L 1) (L 2) (L 5) + fI (fW (L 1) (L 2) (L 5)) (L 2) (fC (L 1) (L 2) (L 5)) := rfl
  exact ⟨by show 0 ≤ fW (L 1) (L 2) (L 5) ∧ fW (L 1) (L 2) (L 5) ≤ 9999999; omega, h2, hC, h3, by show 0 ≤ lvl (fW (L 1) (L 2) (L 5)) (L 2) (fC (L 1) (L 2) (L 5)) (L 3) ∧ lvl (fW (L 1) (L 2) (L 5)) (L 2) (fC (L 1) (L 2) (L 5)) (L 3) ≤ 10249999; omega, by show 0 ≤ L 9 + 1 ∧ L 9 + 1 ≤ 6 ∧ L 0 + (L 6 + fI (L 1) (L 2) (L 5)) - L 7 = fW (L 1) (L 2) (L 5); omega, fun _ => ⟨(ho1 ho).1, hl.2.1, hl.1⟩, fun q => absurd (show fW (L 1) (L 2) (L 5) = 0 from q) (by omega)⟩
/-- a lower balance ends no later: the balance in parts -/
theorem trm_mono (r A : Int) : ∀ (n : Nat) (k b c b2 c2 : Int), 0 ≤ r → 0 ≤ b2 → 0 ≤ c → c < 120000 → 0 ≤ c2 → c2 < 120000 → b2 * 120000 + c2 ≤ b * 120000 + c → 0 ≤ k → trm r A n k b c ≠ -1 → trm r A n k b2 c2 ≠ -1 ∧ trm r A n k b2 c2 ≤ trm r A n k b c
  | 0, k, b, c, b2, c2, _, _, _, _, _, _, _, _, h => absurd rfl h
  | n + 1, k, b, c, b2, c2, hr, hb2, hc, hc1, hd, hd1, hle, hk, h => by
    have hbb : b2 ≤ b := by omega
    have hm : b2 * r ≤ b * r := Int.mul_le_mul_of_nonneg_right hbb hr
    have e1 : fW b r c = b + fI b r c := rfl
    have e2 : fW b2 r c2 = b2 + fI b2 r c2 := rfl
    have t1 : fI b r c * 120000 + fC b r c = b * r + c := by unfold fI fC; omega
    have t2 : fI b2 r c2 * 120000 + fC b2 r c2 = b2 * r + c2 := by unfold fI fC; omega
    have k1 := fC_r b r c
    have k2 := fC_r b2 r c2
    by_cases h1 : fW b r c ≤ A
    · have h2 : fW b2 r c2 ≤ A := by omega
      rw [trm_hit h1, trm_hit h2]
      omega
    · have g1 := trm_go (r := r) (A := A) (b := b) (c := c) (k := k) (n := n) (show A < fW b r c by omega)
      rw [g1] at h ⊢
      by_cases h2 : fW b2 r c2 ≤ A
      · rw [trm_hit h2]
        have := trm_r r A n (k + 1) (fW b r c - A) (fC b r c)
        omega
      · rw [trm_go (show A < fW b2 r c2 by omega)]
        exact trm_mono r A n (k + 1) _ _ _ _ hr (by omega) k1.1 k1.2 k2.1 k2.2 (by omega) (by omega) h
/-- more months change no term that ends -/
theorem trm_more (r A : Int) : ∀ (n j : Nat) (k b c : Int), trm r A n k b c ≠ -1 → trm r A (n + j) k b c = trm r A n k b c
  | 0, j, k, b, c, h => absurd rfl h
  | n + 1, j, k, b, c, h => by
    rw [show n + 1 + j = (n + j) + 1 by omega]
    by_cases h1 : fW b r c ≤ A
    · rw [trm_hit h1, trm_hit h1]
    · rw [trm_go (by omega)] at h ⊢
      rw [trm_go (by omega)]
      exact trm_more r A n j (k + 1) _ _ h
theorem trm_exact (r A : Int) : ∀ (n : Nat) (k b c : Int), trm r A n k b c ≠ -1 → trm r A (trm r A n k b c - k + 1).toNat k b c = trm r A n k b c
  | 0, k, b, c, h => absurd rfl h
  | n + 1, k, b, c, h => by
    by_cases h1 : fW b r c ≤ A
    · rw [trm_hit h1, show (k - k + 1).toNat = 0 + 1 by omega, trm_hit h1]
    · rw [trm_go (by omega)] at h ⊢
      have hr := trm_r r A n (k + 1) (fW b r c - A) (fC b r c)
      generalize hz : trm r A n (k + 1) (fW b r c - A) (fC b r c) = z at h hr ⊢
      rw [show (z - k + 1).toNat = (z - (k + 1) + 1).toNat + 1 by omega, trm_go (by omega)]
      have := trm_exact r A n (k + 1) (fW b r c - A) (fC b r c) (by rw [hz]; exact h)
      rw [hz] at this
      exact this
/-- an extra payment -/
noncomputable def redL (L : Nat → Int) (a keep : Int) : Nat → Int :=
  if L 1 - a = 0 then lf (L 0) 0 (L 2) 0 0 0 (L 6) (L 7 + a) (L 8) (L 9)
  else if keep = 0 then lf (L 0) (L 1 - a) (L 2) (trm (L 2) (L 4) (L 3).toNat 1 (L 1 - a) (L 5)) (L 4) (L 5) (L 6) (L 7 + a) (L 8) (L 9)
  else lf (L 0) (L 1 - a) (L 2) (L 3) (lvl (L 1 - a) (L 2) (L 5) (L 3)) (L 5) (L 6) (L 7 + a) (L 8) (L 9)
theorem redL_LI {L : Nat → Int} {a keep : Int} (h : LI L) (ho : 0 < L 1) (ha : 1 ≤ a) (ha1 : a ≤ L 1) : LI (redL L a keep) := by
  obtain ⟨h1, h2, h5, h3, h4, h9, ho1, hcl⟩ := h
  obtain ⟨o3, o4, ot⟩ := ho1 ho
  unfold redL
  by_cases z : L 1 - a = 0
  · rw [if_pos z]
    exact ⟨by show (0:Int) ≤ 0 ∧ (0:Int) ≤ 9999999; omega, h2, by show (0:Int) ≤ 0 ∧ (0:Int) < 120000; omega, by show (0:Int) ≤ 0 ∧ (0:Int) ≤ 120; omega, by show (0:Int) ≤ 0 ∧ (0:Int) ≤ 10249999; omega, ⟨h9.1, h9.2.1, by show L 0 + L 6 - (L 7 + a) = 0; omega⟩, fun q => absurd (show (0:Int) < 0 from q) (by omega), fun _ => ⟨rfl, rfl, rfl⟩⟩
  · rw [if_neg z]
    by_cases k0 : keep = 0
    · rw [if_pos k0]
      have hm := trm_mono (L 2) (L 4) (L 3).toNat 1 (L 1) (L 5) (L 1 - a) (L 5) h2.1 (by omega) h5.1 h5.2 h5.1 h5.2 (by omega) (by omega) ot
      have hr := trm_r (L 2) (L 4) (L 3).toNat 1 (L 1 - a) (L 5)
      have hx := trm_exact (L 2) (L 4) (L 3).toNat 1 (L 1 - a) (L 5) hm.1
      generalize hz : trm (L 2) (L 4) (L 3).toNat 1 (L 1 - a) (L 5) = t at hm hr hx ⊢
      exact ⟨by show 0 ≤ L 1 - a ∧ L 1 - a ≤ 9999999; omega, h2, h5, by show 0 ≤ t ∧ t ≤ 120; omega, h4, ⟨h9.1, h9.2.1, by show L 0 + L 6 - (L 7 + a) = L 1 - a; omega⟩, fun _ => ⟨by show 1 ≤ t; omega, o4, by
        show trm (L 2) (L 4) t.toNat 1 (L 1 - a) (L 5) ≠ -1
        rw [show t.toNat = (t - 1 + 1).toNat by omega, hx]
        exact hm.1⟩, fun q => absurd (show L 1 - a = 0 from q) z⟩
    · rw [if_neg k0]
      have hl := lvl_ok (b := L 1 - a) (m := L 3) (by omega) (by omega) h2.1 h2.2 h5.1 h5.2 o3
      have hf := fI_r (b := L 1 - a) (by omega) h2.1 h2.2 h5.1 h5.2
      have e : fW (L 1 - a) (L 2) (L 5) = L 1 - a + fI (L 1 - a) (L 2) (L 5) := rfl
      exact ⟨by show 0 ≤ L 1 - a ∧ L 1 - a ≤ 9999999; omega, h2, h5, h3, by show 0 ≤ lvl (L 1 - a) (L 2) (L 5) (L 3) ∧ lvl (L 1 - a) (L 2) (L 5) (L 3) ≤ 10249999; omega, ⟨h9.1, h9.2.1, by show L 0 + L 6 - (L 7 + a) = L 1 - a; omega⟩, fun _ => ⟨o3, hl.2.1, hl.1⟩, fun q => absurd (show L 1 - a = 0 from q) z⟩
/-- a loan opened -/
noncomputable def newL (a r m : Int) : Nat → Int := lf a a r m (lvl a r 0 m) 0 0 0 0 0
theorem newL_LI {a r m : Int} (ha : 1 ≤ a) (ha1 : a ≤ 9999999) (hr : 0 ≤ r) (hr1 : r ≤ 3000) (hm : 1 ≤ m) (hm1 : m ≤ 120) : LI (newL a r m) := by
  have hl := lvl_ok (c := 0) ha ha1 hr hr1 (by omega) (by omega) hm
  have hf := fI_r (b := a) (c := 0) (by omega) hr hr1 (by omega) (by omega)
  have e : fW a r 0 = a + fI a r 0 := rfl
  exact ⟨by show 0 ≤ a ∧ a ≤ 9999999; omega, ⟨hr, hr1⟩, by show (0:Int) ≤ 0 ∧ (0:Int) < 120000; omega, by show 0 ≤ m ∧ m ≤ 120; omega, by show 0 ≤ lvl a r 0 m ∧ lvl a r 0 m ≤ 10249999; omega, by show (0:Int) ≤ 0 ∧ (0:Int) ≤ 6 ∧ a + 0 - 0 = a; omega, fun _ => ⟨hm, hl.2.1, hl.1⟩, fun q => absurd (show a = 0 from q) (by omega)⟩
theorem redL_cases (L : Nat → Int) (a keep : Int) : (L 1 - a = 0 → redL L a keep = lf (L 0) 0 (L 2) 0 0 0 (L 6) (L 7 + a) (L 8) (L 9)) ∧ (L 1 - a ≠ 0 → keep = 0 → redL L a keep = lf (L 0) (L 1 - a) (L 2) (trm (L 2) (L 4) (L 3).toNat 1 (L 1 - a) (L 5)) (L 4) (L 5) (L 6) (L 7 + a) (L 8) (L 9)) ∧ (L 1 - a ≠ 0 → keep ≠ 0 → redL L a keep = lf (L 0) (L 1 - a) (L 2) (L 3) (lvl (L 1 - a) (L 2) (L 5) (L 3)) (L 5) (L 6) (L 7 + a) (L 8) (L 9)) := by
  refine ⟨fun h => if_pos h, fun h h2 => ?_, fun h h2 => ?_⟩
  · show (if _ then _ else _) = _
    rw [if_neg h, if_pos h2]
  · show (if _ then _ else _) = _
    rw [if_neg h, if_neg h2]
