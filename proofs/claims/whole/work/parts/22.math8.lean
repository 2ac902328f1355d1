theorem wdst_y {w : Nat → Int} {i f : Int} (h0 : 0 ≤ i) (hf : f = dst (LWf w) i.toNat) (h : 0 < wOf w i 1) (h2 : f = -1 ∨ (0 ≤ f ∧ wOf w f 2 < wOf w i 2)) : i = dst (LWf w) (i + 1).toNat := by
  rw [show (i + 1).toNat = i.toNat + 1 by omega, dst_y hf (by rw [LWf_i w h0]; exact h) (by
    rcases h2 with h2 | h2
    · exact Or.inl h2
    · right; rw [LWf_i w h0, LWf_i w h2.1]; exact h2.2)]
  omega
theorem wdst_n {w : Nat → Int} {i f : Int} (h0 : 0 ≤ i) (hf : f = dst (LWf w) i.toNat) (h : wOf w i 1 ≤ 0 ∨ (0 ≤ f ∧ wOf w i 2 ≤ wOf w f 2)) : f = dst (LWf w) (i + 1).toNat := by
  rw [show (i + 1).toNat = i.toNat + 1 by omega, dst_n hf (by
    rw [LWf_i w h0, LWf_i w h0]
    intro z
    rcases h with h | h
    · have : wOf w i ((1 : Nat) : Int) = wOf w i 1 := rfl
      omega
    · rcases z.2 with z2 | z2
      · omega
      · rw [LWf_i w h.1] at z2
        have e1 : wOf w i ((2 : Nat) : Int) = wOf w i 2 := rfl
        have e2 : wOf w f ((2 : Nat) : Int) = wOf w f 2 := rfl
        omega)]
theorem wsml_y {w : Nat → Int} {i f : Int} (h0 : 0 ≤ i) (hf : f = sml (LWf w) i.toNat) (h : 0 < wOf w i 1) (h2 : f = -1 ∨ (0 ≤ f ∧ wOf w i 1 < wOf w f 1)) : i = sml (LWf w) (i + 1).toNat := by
  rw [show (i + 1).toNat = i.toNat + 1 by omega, sml_y hf (by rw [LWf_i w h0]; exact h) (by
    rcases h2 with h2 | h2
    · exact Or.inl h2
    · right; rw [LWf_i w h0, LWf_i w h2.1]; exact h2.2)]
  omega
theorem wsml_n {w : Nat → Int} {i f : Int} (h0 : 0 ≤ i) (hf : f = sml (LWf w) i.toNat) (h : wOf w i 1 ≤ 0 ∨ (0 ≤ f ∧ wOf w f 1 ≤ wOf w i 1)) : f = sml (LWf w) (i + 1).toNat := by
  rw [show (i + 1).toNat = i.toNat + 1 by omega, sml_n hf (by
    rw [LWf_i w h0]
    intro z
    have e1 : wOf w i ((1 : Nat) : Int) = wOf w i 1 := rfl
    rcases h with h | h
    · omega
    · rcases z.2 with z2 | z2
      · omega
      · rw [LWf_i w h.1] at z2
        have e2 : wOf w f ((1 : Nat) : Int) = wOf w f 1 := rfl
        omega)]
theorem wcnt_y {w : Nat → Int} {i x : Int} (h0 : 0 ≤ i) (hx : x = cnt (LWf w) i.toNat) (h : 0 < wOf w i 1) : x + 1 = cnt (LWf w) (i + 1).toNat := by
  rw [cnt_y h0 (by rw [LWf_i w h0]; exact h), hx]
theorem wcnt_n {w : Nat → Int} {i x : Int} (h0 : 0 ≤ i) (hx : x = cnt (LWf w) i.toNat) (h : wOf w i 1 ≤ 0) : x + 0 = cnt (LWf w) (i + 1).toNat := by
  rw [cnt_n h0 (by rw [LWf_i w h0]; exact h), hx]
  omega
theorem dueL_c {L : Nat → Int} (h : LI L) (ho : L 1 ≤ 0) : dueL L = 0 := by
  have := h.1
  have z := h.2.2.2.2.2.2.2 (by omega)
  have : fI (L 1) (L 2) (L 5) = 0 := by
    unfold fI
    rw [show L 1 = 0 by omega, z.2.2, Int.zero_mul]
    rfl
  have e : fW (L 1) (L 2) (L 5) = L 1 + fI (L 1) (L 2) (L 5) := rfl
  have : dueL L = fW (L 1) (L 2) (L 5) := fD_w (Or.inl (by omega))
  omega
theorem sumI_s {f : Int → Int} {i : Int} (h0 : 0 ≤ i) : sumF (fun k : Nat => f (k : Int)) (i + 1).toNat = sumF (fun k : Nat => f (k : Int)) i.toNat + f i := by
  rw [sumF_s h0]
  show _ + f ((i.toNat : Nat) : Int) = _
  rw [show ((i.toNat : Nat) : Int) = i by omega]
/-- sums over the row's loans -/
def wDue (w : Nat → Int) (k : Nat) : Int := sumF (fun i : Nat => dueL (WL w (i : Int))) k
def wFld (w : Nat → Int) (q : Int) (k : Nat) : Int := sumF (fun i : Nat => wOf w (i : Int) q) k
theorem wDue_s {w : Nat → Int} {i : Int} (h0 : 0 ≤ i) : wDue w (i + 1).toNat = wDue w i.toNat + dueL (WL w i) := sumI_s (f := fun j => dueL (WL w j)) h0
theorem wFld_s {w : Nat → Int} {q i : Int} (h0 : 0 ≤ i) : wFld w q (i + 1).toNat = wFld w q i.toNat + wOf w i q := sumI_s (f := fun j => wOf w j q) h0
/-- one row over another, the first k places -/
def mixI (f g : Nat → Int) (k : Int) : Nat → Int := fun j => if (j : Int) < k then f j else g j
theorem mixI_0 (f g : Nat → Int) : mixI f g 0 = g := by funext j; exact if_neg (by omega)
theorem mixI_s {f g : Nat → Int} {k : Int} (h0 : 0 ≤ k) : uI (mixI f g k) k.toNat (f k.toNat) = mixI f g (k + 1) := by
  funext j
  by_cases e : j = k.toNat
  · rw [e, uI_s]; exact (if_pos (by omega)).symm
  · rw [uI_n e]
    unfold mixI
    by_cases c : (j : Int) < k
    · rw [if_pos c, if_pos (by omega)]
    · rw [if_neg c, if_neg (by omega)]
theorem mixI_e {f g : Nat → Int} {k : Int} {j : Nat} (h : (j : Int) < k) : mixI f g k j = f j := if_pos h
/-- a loan made in the row -/
def wZ (w : Nat → Int) (n : Int) : Nat → (Nat → Int)
  | 0 => w
  | k + 1 => wPut (wZ w n k) n k 0
theorem wZ_R {w : Nat → Int} {n : Int} (hn : 0 ≤ n) : ∀ k : Nat, k ≤ 10 → ∃ f : Nat → Int, WR w (wZ w n k) n f ∧ ∀ q, q < k → f q = 0
  | 0, _ => ⟨WL w n, WR.rf w n, fun q hq => absurd hq (Nat.not_lt_zero q)⟩
  | k + 1, hk => by
    obtain ⟨f, h1, h2⟩ := wZ_R (w := w) hn k (by omega)
    refine ⟨uI f ((k : Nat) : Int).toNat 0, h1.put hn (by omega) (by omega), fun q hq => ?_⟩
    by_cases e : q = ((k : Nat) : Int).toNat
    · rw [e, uI_s]
    · rw [uI_n e]; exact h2 q (by omega)
def wNw (w : Nat → Int) (a r m : Int) : Nat → Int :=
  let n := w 0
  let u := wPut (wPut (wPut (wPut (wZ w n 10) n 0 a) n 1 a) n 2 r) n 3 m
  uI u 0 (u 0 + 1)
noncomputable def wNew (w : Nat → Int) (a r m : Int) : Nat → Int := wCalc (wNw w a r m) (w 0)
theorem wNw_R {w : Nat → Int} {a r m : Int} (hn : 0 ≤ w 0) : (∀ k : Nat, k < 10 → wOf (wNw w a r m) (w 0) k = lf a a r m 0 0 0 0 0 0 k) ∧ (∀ j : Int, 0 ≤ j → j ≠ w 0 → ∀ k : Nat, k < 10 → wOf (wNw w a r m) j k = wOf w j k) ∧ (∀ j : Nat, 0 < j → j < 62 → wNw w a r m j = w j) ∧ wNw w a r m 0 = w 0 + 1 := by
  obtain ⟨f, h1, h2⟩ := wZ_R (w := w) hn 10 (Nat.le_refl _)
  have h3 := (((h1.put hn (k := 0) (x := a) (by omega) (by omega)).put hn (k := 1) (x := a) (by omega) (by omega)).put hn (k := 2) (x := r) (by omega) (by omega)).put hn (k := 3) (x := m) (by omega) (by omega)
  have hu : ∀ (j k : Int), 0 ≤ j → 0 ≤ k → wOf (wNw w a r m) j k = wOf (wPut (wPut (wPut (wPut (wZ w (w 0) 10) (w 0) 0 a) (w 0) 1 a) (w 0) 2 r) (w 0) 3 m) j k := fun j k hj hk => uI_n (by omega)
  refine ⟨fun k hk => ?_, fun j hj hne k hk => ?_, fun j h0 hj => ?_, ?_⟩
  · rw [hu _ _ hn (by omega), h3.1 k hk]
    revert k
    exact lo_ten rfl rfl rfl rfl (h2 4 (by omega)) (h2 5 (by omega)) (h2 6 (by omega)) (h2 7 (by omega)) (h2 8 (by omega)) (h2 9 (by omega))
  · rw [hu _ _ hj (by omega)]; exact h3.2.1 j hj hne k hk
  · exact (uI_n (by omega)).trans (h3.2.2 j hj)
  · exact uI_s.trans (congrArg (· + 1) (h3.2.2 0 (by omega)))
theorem nar_b {z : Int} (h : z = 0 ∨ z = 1) : narrow .boolean (.int (iI z)) = .int (iI z) := by rcases h with h | h <;> rw [h] <;> rfl
